import java.lang.reflect.Constructor;
import java.lang.reflect.Field;
import java.lang.reflect.Method;
import java.lang.reflect.Modifier;
import java.util.ArrayList;
import java.util.Arrays;
import java.util.Collections;
import java.util.HashSet;
import java.util.List;
import java.util.Set;

/** The document's face, and rule 1 of LANGUAGE.md: these members, these throws clauses, and no other but private ones. */
public final class FaceTest {
    private static final String N = " throws NoSuchElementException";
    private static final String I = " throws IllegalArgumentException";
    private static final String B = " throws NoSuchElementException, IllegalArgumentException";

    private static final String[] METHODS = {
        "int form(int, int, int, int)", "int girth(int, int)" + B, "int width(int, int, int)" + B,
        "int holds(int, int)" + B, "int level(int, int)" + B, "int head(int)" + N, "int days(int)" + I,
        "int bolt(int)", "int flaw(int, int, int)" + N, "int clear(int, int, int)" + N, "boolean ripe(int)" + N,
        "int fewest(int)" + N, "int make(int)" + N, "int stave(int, int, int)" + N, "int formOf(int)" + N,
        "boolean bars(int, int, boolean)" + I, "boolean may(int, int)" + B, "int tell(int, int, int)" + B,
        "int held(int, int, int)" + N, "int lacks(int, int, int, int)" + B, "boolean swap(int, int, int, int)" + N,
        "int renew(int, int)" + N, "int weight(int, int)" + I, "long weighs(int, int)" + B, "int count(int)" + N,
    };

    private FaceTest() {
    }

    public static void main(String[] args) throws Exception {
        Class<?> c = CaskYard.class;
        Due.same("the class is public and final", "public final", Modifier.toString(c.getModifiers()));
        Due.is("NONE", -1, () -> CaskYard.NONE);
        Constructor<?>[] made = c.getDeclaredConstructors();
        Due.same("constructors", "[public CaskYard()]", Arrays.toString(made));
        Due.same("methods", sorted(Arrays.asList(METHODS)), sorted(publicMethods(c)));
        Due.same("fields", "[public static final int CaskYard.NONE]", openFields(c).toString());
        for (Method m : c.getDeclaredMethods()) {
            boolean hidden = Modifier.isPublic(m.getModifiers()) || Modifier.isPrivate(m.getModifiers());
            Due.is(m + " is public or private", true, () -> hidden);
        }
        privateNames(c);
        for (Class<?> inside : c.getDeclaredClasses()) {
            boolean kept = Modifier.isStatic(inside.getModifiers()) && !Modifier.isPublic(inside.getModifiers())
                    && !Modifier.isProtected(inside.getModifiers());
            Due.is(inside + " is static and not public", true, () -> kept);
        }
        Due.end("FaceTest");
    }

    private static void privateNames(Class<?> c) {
        Set<String> face = new HashSet<>();
        for (Method m : c.getMethods()) {
            face.add(m.getName());
        }
        for (Method m : c.getDeclaredMethods()) {
            if (Modifier.isPrivate(m.getModifiers())) {
                Due.is(m + " bears the name of a public one", false, () -> face.contains(m.getName()));
            }
        }
    }

    private static List<String> openFields(Class<?> c) {
        List<String> open = new ArrayList<>();
        for (Field f : c.getDeclaredFields()) {
            if (!Modifier.isPrivate(f.getModifiers())) {
                open.add(f.toString());
            }
        }
        return open;
    }

    private static List<String> publicMethods(Class<?> c) {
        List<String> all = new ArrayList<>();
        for (Method m : c.getDeclaredMethods()) {
            if (Modifier.isPublic(m.getModifiers())) {
                String given = names(m.getExceptionTypes());
                all.add(m.getReturnType().getSimpleName() + " " + m.getName() + "(" + names(m.getParameterTypes()) + ")"
                        + (given.isEmpty() ? "" : " throws " + given));
            }
        }
        return all;
    }

    private static String names(Class<?>[] types) {
        List<String> all = new ArrayList<>();
        for (Class<?> t : types) {
            all.add(t.getSimpleName());
        }
        return String.join(", ", all);
    }

    private static String sorted(List<String> rows) {
        List<String> all = new ArrayList<>(rows);
        Collections.sort(all);
        return String.join("\n", all);
    }
}
