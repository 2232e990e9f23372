import java.util.Arrays;
import java.util.function.Function;
import java.util.function.Supplier;

/**
 * Yards that the tests start from, and what can be seen of one. A CASK of the small FORM (10, 100, 60, 8) needs four
 * NARROW pieces of 14 (STAVES 0 2 4 6) and four WIDE ones of 15 (STAVES 1 3 5 7), 116 in all.
 */
final class Yards {
    /** Numbers that are wrong wherever a number from 0 on is wanted. */
    static final int[] FAR = {Integer.MIN_VALUE, -2, -1, 1000000, Integer.MAX_VALUE};

    private static final int[] SOME_KINDS = {0, 3, 5, 15};

    private Yards() {
    }

    static CaskYard small() {
        CaskYard x = new CaskYard();
        x.form(10, 100, 60, 8);
        return x;
    }

    /** A BOLT 0 of this width, on day 0, with FLAWS of one from each of these on. */
    static CaskYard wood(int width, int... flaws) {
        CaskYard x = small();
        x.bolt(width);
        for (int at : flaws) {
            x.flaw(0, at, at + 1);
        }
        return x;
    }

    /** Day 1095, the small FORM and RIPE BOLTS of these widths. */
    static CaskYard ripe(int... widths) {
        CaskYard x = small();
        for (int w : widths) {
            x.bolt(w);
        }
        x.days(1095);
        return x;
    }

    /** Day 1095, CASKS 0 and 1 of the small FORM out of BOLT 0 (232-240 is left), and a BOLT 1 of 40. */
    static CaskYard two() {
        CaskYard x = ripe(240, 40);
        x.make(0);
        x.make(0);
        return x;
    }

    static String parts(CaskYard x, int bolt) {
        StringBuilder all = new StringBuilder();
        for (int i = 0; i < 5; i++) {
            int at = i;
            String from = Due.answer(() -> x.clear(bolt, at, 0));
            if (!from.equals("NSE")) {
                all.append(from).append('-').append(Due.answer(() -> x.clear(bolt, at, 1))).append(' ');
            }
        }
        return all.toString().trim();
    }

    /** The parts of all BOLTS, in their order. */
    static String allParts(CaskYard x) {
        int bolts = x.count(2);
        StringBuilder all = new StringBuilder();
        for (int b = 0; b < bolts; b++) {
            all.append(b == 0 ? "" : " | ").append(parts(x, b));
        }
        return all.toString();
    }

    static String boltsOf(CaskYard x, int cask) {
        return ofStaves(x, cask, 0);
    }

    static String pastsOf(CaskYard x, int cask) {
        return ofStaves(x, cask, 1);
    }

    private static String ofStaves(CaskYard x, int cask, int what) {
        StringBuilder all = new StringBuilder();
        for (int k = 0; k < 8; k++) {
            all.append(x.stave(cask, k, what)).append(' ');
        }
        return all.toString().trim();
    }

    /**
     * The call is answered as due on one of two yards made alike, and then both show the same. The picture itself
     * changes its yard, so it is the last that is asked of each.
     */
    static void unchanged(String what, Supplier<CaskYard> made, Object due, Function<CaskYard, Object> call) {
        CaskYard asked = made.get();
        Due.is(what, due, () -> call.apply(asked));
        Due.same(what + ", and nothing changes", picture(made.get()), picture(asked));
    }

    private static String picture(CaskYard x) {
        int[] counts = {x.count(0), x.count(1), x.count(2), x.count(3)};
        StringBuilder all = new StringBuilder(Arrays.toString(counts));
        for (int f = 0; f < counts[1]; f++) {
            all.append("\nform ").append(x.girth(f, 0)).append(' ').append(x.holds(f, 10)).append(' ')
                    .append(x.width(f, 7, 5)).append(' ').append(x.fewest(f));
        }
        for (int b = 0; b < counts[2]; b++) {
            all.append("\nbolt ").append(x.ripe(b)).append(' ').append(parts(x, b));
        }
        // The first and the last: all would be more than the 512 calls that an object is used for.
        for (int c = 0; c < counts[3]; c += Math.max(1, counts[3] - 1)) {
            all.append("\ncask ").append(pictureOf(x, c, counts[0]));
        }
        all.append('\n');
        for (int kind = 0; kind < 16; kind++) {
            all.append(' ').append(x.weight(kind, 1));
        }
        for (int a : SOME_KINDS) {
            for (int b : SOME_KINDS) {
                all.append(' ').append(x.bars(a, b, false));
            }
        }
        return all.toString();
    }

    private static String pictureOf(CaskYard x, int cask, int now) {
        return x.formOf(cask) + " " + boltsOf(x, cask) + " " + pastsOf(x, cask) + " " + x.held(cask, 0, now) + " "
                + x.held(cask, now, now) + " " + x.lacks(cask, 0, 100000, 0) + " " + x.lacks(cask, 0, 100000, 1) + " "
                + x.tell(cask, 0, 16);
    }
}
