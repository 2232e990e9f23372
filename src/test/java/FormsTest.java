/** Promises 1 to 7. The small FORM (10, 100, 60, 8) has the girths 60 75 86 94 99 100 99 94 86 75 60. */
public final class FormsTest {
    private static final int[] GIRTHS = {60, 75, 86, 94, 99, 100, 99, 94, 86, 75, 60};

    private FormsTest() {
    }

    public static void main(String[] args) {
        promise1();
        promise2();
        promise3();
        promise4();
        promise5();
        promise6();
        promise7();
        Due.end("FormsTest");
    }

    private static void promise1() {
        CaskYard x = new CaskYard();
        for (int what = 0; what < 4; what++) {
            int w = what;
            Due.is("1 count " + w, 0, () -> x.count(w));
        }
        Due.noSuch("1 no form", () -> x.head(0));
        Due.noSuch("1 no bolt", () -> x.ripe(0));
        Due.noSuch("1 no cask", () -> x.formOf(0));
        Due.is("1 nothing bars", false, () -> x.bars(3, 3, false));
        Due.is("1 weight", 1000, () -> x.weight(15, 1000));
        x.bolt(5);
        Due.is("1 another object is its own", 0, () -> new CaskYard().count(2));
    }

    private static void promise2() {
        CaskYard x = new CaskYard();
        int[][] wrong = {
            {8, 100, 60, 8}, {9, 100, 60, 8}, {11, 100, 60, 8}, {199, 100, 60, 8}, {202, 100, 60, 8}, {-10, 100, 60, 8},
            {10, 99, 60, 8}, {10, 2001, 60, 8}, {10, 100, 49, 8}, {10, 100, 101, 8}, {10, 100, -60, 8},
            {10, 100, 60, 7}, {10, 100, 60, 41}, {10, 100, 60, 0}, {Integer.MIN_VALUE, 100, 60, 8},
            {10, Integer.MAX_VALUE, 60, 8}, {10, 100, Integer.MAX_VALUE, 8}, {10, 100, 60, Integer.MIN_VALUE},
        };
        for (int[] w : wrong) {
            Due.is("2 wrong " + java.util.Arrays.toString(w), -1, () -> x.form(w[0], w[1], w[2], w[3]));
        }
        Due.is("2 none of them stands", 0, () -> x.count(1));
        int[][] right = {
            {10, 100, 50, 8}, {200, 2000, 2000, 40}, {10, 100, 100, 8}, {200, 100, 50, 40},
            {12, 101, 51, 9}, {198, 1999, 50, 39}, {10, 100, 50, 8}, {10, 100, 50, 8},
        };
        for (int i = 0; i < right.length; i++) {
            int[] r = right[i];
            Due.is("2 form " + i, i, () -> x.form(r[0], r[1], r[2], r[3]));
        }
        Due.is("2 the ninth", -1, () -> x.form(10, 100, 50, 8));
        Due.is("2 there are 8", 8, () -> x.count(1));
    }

    private static void promise3() {
        CaskYard x = Yards.small();
        for (int y = 0; y <= 10; y++) {
            int at = y;
            Due.is("3 girth at " + y, GIRTHS[y], () -> x.girth(0, at));
        }
        Due.illegal("3 below", () -> x.girth(0, -1));
        Due.illegal("3 above", () -> x.girth(0, 11));
        Due.noSuch("3 form 1", () -> x.girth(1, 0));
        Due.noSuch("3 form -1", () -> x.girth(-1, 0));
        Due.noSuch("3 form 8", () -> x.girth(8, 0));
        Due.noSuch("3 both wrong", () -> x.girth(1, 11));
        x.form(200, 2000, 50, 40);
        Due.is("3 large head", 50, () -> x.girth(1, 200));
        Due.is("3 large bilge", 2000, () -> x.girth(1, 100));
        Due.is("3 large beside", 2000 - 1950 * 39204 / 40000, () -> x.girth(1, 1));
        x.form(20, 300, 300, 10);
        Due.is("3 straight", 300, () -> x.girth(2, 0));
    }

    private static void promise4() {
        CaskYard x = Yards.small();
        for (int k = 0; k < 8; k++) {
            int at = k;
            Due.is("4 width at 5 of " + k, 12 + k % 2, () -> x.width(0, at, 5));
            Due.is("4 width at 0 of " + k, 7 + k % 2, () -> x.width(0, at, 0));
        }
        int sum = 0;
        for (int k = 0; k < 8; k++) {
            sum += x.width(0, k, 3);
        }
        int closed = sum;
        Due.is("4 the staves close the round", 94, () -> closed);
        Due.noSuch("4 stave 8", () -> x.width(0, 8, 0));
        Due.noSuch("4 stave -1", () -> x.width(0, -1, 0));
        Due.noSuch("4 stave and height", () -> x.width(0, 8, 11));
        Due.noSuch("4 form", () -> x.width(1, 0, 0));
        Due.illegal("4 above", () -> x.width(0, 7, 11));
        Due.illegal("4 below", () -> x.width(0, 0, -1));
    }

    private static void promise5() {
        CaskYard x = Yards.small();
        int[] due = {0, 286, 734, 1322};
        for (int l = 0; l < due.length; l++) {
            int at = l;
            Due.is("5 holds to " + l, due[l], () -> x.holds(0, at));
        }
        Due.is("5 full", 6120, () -> x.holds(0, 10));
        Due.illegal("5 below", () -> x.holds(0, -1));
        Due.illegal("5 above", () -> x.holds(0, 11));
        Due.noSuch("5 form", () -> x.holds(1, 11));
        x.form(200, 2000, 2000, 40);
        x.form(10, 102, 102, 8);
        Due.is("5 just below one more", 827, () -> x.holds(2, 1));
        Due.is("5 the largest", 63661971, () -> x.holds(1, 200));
    }

    private static void promise6() {
        CaskYard x = Yards.small();
        int[][] due = {{0, 0}, {1, 1}, {286, 1}, {287, 2}, {734, 2}, {735, 3}, {1322, 3}, {1323, 4}, {6120, 10}};
        for (int[] d : due) {
            Due.is("6 level for " + d[0], d[1], () -> x.level(0, d[0]));
        }
        Due.is("6 more than it holds", -1, () -> x.level(0, 6121));
        Due.is("6 far more", -1, () -> x.level(0, Integer.MAX_VALUE));
        Due.illegal("6 below 0", () -> x.level(0, -1));
        Due.noSuch("6 form", () -> x.level(1, -1));
        x.form(200, 2000, 2000, 40);
        x.form(10, 102, 102, 8);
        Due.is("6 just held", 1, () -> x.level(2, 827));
        Due.is("6 just not held", 2, () -> x.level(2, 828));
        Due.is("6 the largest", 200, () -> x.level(1, 63661971));
    }

    private static void promise7() {
        CaskYard x = Yards.small();
        Due.is("7 head", 19, () -> x.head(0));
        x.form(10, 2000, 355, 8);
        Due.is("7 head of 355", 113, () -> x.head(1));
        x.form(10, 2000, 2000, 8);
        Due.is("7 the largest", 636, () -> x.head(2));
        Due.noSuch("7 form 3", () -> x.head(3));
        Due.noSuch("7 form -1", () -> x.head(-1));
        Due.noSuch("7 form far", () -> x.head(Integer.MAX_VALUE));
    }
}
