import java.io.IOException;
import java.lang.reflect.Method;
import java.lang.reflect.Modifier;
import java.nio.file.Files;
import java.nio.file.Path;
import java.util.List;

/** README.md: each line of its example answers what stands behind it, and every call of the face is named. */
public final class ReadmeTest {
    private static int asked = 0;

    private ReadmeTest() {
    }

    public static void main(String[] args) throws IOException {
        List<String> page = Files.readAllLines(Path.of("README.md"));
        example(exampleOf(page));
        for (Method m : CaskYard.class.getDeclaredMethods()) {
            if (Modifier.isPublic(m.getModifiers())) {
                Due.same("the page's table names " + m.getName(), "true", String.valueOf(isNamed(page, m.getName())));
            }
        }
        Due.end("ReadmeTest");
    }

    private static List<String> exampleOf(List<String> page) {
        int from = page.indexOf("```java") + 1;
        int to = page.lastIndexOf("```");
        return page.subList(from, Math.max(from, to));
    }

    private static boolean isNamed(List<String> page, String call) {
        return page.stream().anyMatch(line -> line.startsWith("| `") && line.contains("`" + call + "`"));
    }

    private static void example(List<String> lines) {
        CaskYard yard = new CaskYard();
        next(lines, "CaskYard yard = new CaskYard();", "");
        int form = yard.form(10, 100, 60, 8);
        next(lines, "int form = yard.form(10, 100, 60, 8);", form);
        next(lines, "yard.holds(form, 10);", yard.holds(form, 10));
        next(lines, "yard.level(form, 2000);", yard.level(form, 2000));
        int bolt = yard.bolt(200);
        next(lines, "int bolt = yard.bolt(200);", bolt);
        next(lines, "yard.flaw(bolt, 20, 22);", yard.flaw(bolt, 20, 22));
        next(lines, "yard.make(form);", yard.make(form));
        next(lines, "yard.days(1095);", yard.days(1095));
        next(lines, "yard.fewest(form);", yard.fewest(form));
        int cask = yard.make(form);
        next(lines, "int cask = yard.make(form);", cask);
        next(lines, "yard.clear(bolt, 0, 0);", yard.clear(bolt, 0, 0));
        next(lines, "yard.tell(cask, 1095, 3);", yard.tell(cask, 1095, 3));
        next(lines, "yard.held(cask, 1095, 1095);", yard.held(cask, 1095, 1095));
        next(lines, "yard.lacks(cask, 0, 1095, 0);", yard.lacks(cask, 0, 1095, 0));
        next(lines, "yard.bars(3, 4, true);", yard.bars(3, 4, true));
        next(lines, "yard.may(cask, 4);", yard.may(cask, 4));
        next(lines, "yard.weight(3, 900);", yard.weight(3, 900));
        next(lines, "yard.weighs(cask, 5);", yard.weighs(cask, 5));
        next(lines, "yard.renew(cask, 1);", yard.renew(cask, 1));
        Due.same("lines of the page's example", String.valueOf(asked), String.valueOf(lines.size()));
    }

    /** The next line of the page is this call, and names this answer between its // and its first comma. */
    private static void next(List<String> lines, String call, Object answer) {
        String line = asked < lines.size() ? lines.get(asked) : "";
        asked++;
        String[] sides = line.split("//");
        String told = sides.length < 2 ? "" : sides[1].split(",")[0].trim();
        Due.same("the page's line " + asked, sides[0].trim() + " " + told, call + " " + answer);
    }
}
