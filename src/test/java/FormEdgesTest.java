import java.util.Arrays;

/** The sentences on FORMS that name an edge, one by one: Terms 1, promises 1 to 7. */
public final class FormEdgesTest {
    private static final int MIN = Integer.MIN_VALUE;
    private static final int MAX = Integer.MAX_VALUE;

    private FormEdgesTest() {
    }

    public static void main(String[] args) {
        none();
        formNumbers();
        heights();
        bilges();
        heads();
        staves();
        girthFromFootToTop();
        girthCutDown();
        widthCutDown();
        holdsFromFootToTop();
        holdsBelowTheLevel();
        holdsCutDownOnce();
        headCutDown();
        newObject();
        ninthForm();
        wrongForm();
        noSuchForm();
        noSuchHeight();
        noSuchStave();
        noSuchHeightOfStave();
        noSuchLevel();
        leastLevel();
        noLevel();
        muchBelowNought();
        Due.end("FormEdgesTest");
    }

    private static void none() {
        Due.sentence(1, "`NONE = -1`: There is none.");
        Due.is("NONE", -1, () -> CaskYard.NONE);
    }

    private static CaskYard eightForms() {
        CaskYard x = new CaskYard();
        for (int i = 0; i < 8; i++) {
            x.form(10 + 2 * i, 100 + i, 60 + i, 8 + i);
        }
        return x;
    }

    private static void formNumbers() {
        Due.sentence(2, "FORMS 0 to 7");
        CaskYard x = new CaskYard();
        for (int i = 0; i < 8; i++) {
            int at = i;
            Due.is("form " + i, i, () -> x.form(10 + 2 * at, 100 + at, 60 + at, 8 + at));
        }
        for (int i = 0; i < 8; i++) {
            int at = i;
            Due.is("girth of " + i, 60 + i, () -> x.girth(at, 10 + 2 * at));
            Due.is("bilge of " + i, 100 + i, () -> x.girth(at, 5 + at));
        }
    }

    /** Each on a new object, so that one taken by mistake does not fill the yard for those behind it. */
    private static void taken(int due, int[]... shapes) {
        for (int[] s : shapes) {
            Due.is(Arrays.toString(s), due, () -> new CaskYard().form(s[0], s[1], s[2], s[3]));
        }
    }

    private static void heights() {
        Due.sentence(2, "a HEIGHT h (10 to 200, even)");
        for (int h : new int[] {MIN, -200, -10, -2, 0, 2, 8, 9, 11, 13, 99, 101, 199, 201, 202, 210, MAX - 1, MAX}) {
            taken(-1, new int[] {h, 100, 60, 8});
        }
        for (int h : new int[] {10, 12, 100, 198, 200}) {
            taken(0, new int[] {h, 100, 60, 8});
        }
    }

    private static void bilges() {
        Due.sentence(2, "BILGE g (100 to 2000)");
        for (int g : new int[] {MIN, -2000, -100, 0, 50, 60, 99, 2001, 2002, MAX}) {
            taken(-1, new int[] {10, g, 50, 8});
        }
        for (int g : new int[] {100, 101, 1999, 2000}) {
            taken(0, new int[] {10, g, 50, 8});
        }
    }

    private static void heads() {
        Due.sentence(2, "HEAD e (50 to g)");
        for (int e : new int[] {MIN, -60, 0, 49, 101, 102, MAX}) {
            taken(-1, new int[] {10, 100, e, 8});
        }
        taken(0, new int[] {10, 100, 50, 8}, new int[] {10, 100, 51, 8}, new int[] {10, 100, 99, 8},
                new int[] {10, 100, 100, 8}, new int[] {10, 2000, 50, 8}, new int[] {10, 2000, 2000, 8});
        taken(-1, new int[] {10, 2000, 49, 8}, new int[] {10, 2000, 2001, 8}, new int[] {10, 1000, 1001, 8});
    }

    private static void staves() {
        Due.sentence(2, "STAVES (8 to 40)");
        for (int s : new int[] {MIN, -8, 0, 1, 7, 41, 42, MAX}) {
            taken(-1, new int[] {10, 100, 60, s});
        }
        for (int s : new int[] {8, 9, 39, 40}) {
            taken(0, new int[] {10, 100, 60, s});
        }
    }

    private static void girthFromFootToTop() {
        Due.sentence(3, "GIRTH at height y (0 to h)");
        CaskYard x = new CaskYard();
        int[][] shapes = {{10, 100, 50, 8}, {200, 2000, 50, 40}, {200, 2000, 2000, 40}, {12, 101, 100, 9}};
        for (int i = 0; i < shapes.length; i++) {
            int form = x.form(shapes[i][0], shapes[i][1], shapes[i][2], shapes[i][3]);
            int h = shapes[i][0];
            Due.is("foot of " + i, shapes[i][2], () -> x.girth(form, 0));
            Due.is("middle of " + i, shapes[i][1], () -> x.girth(form, h / 2));
            Due.is("top of " + i, shapes[i][2], () -> x.girth(form, h));
        }
    }

    private static void girthCutDown() {
        Due.sentence(3, "that quotient cut down");
        CaskYard x = Yards.small();
        int[] due = {60, 75, 86, 94, 99, 100, 99, 94, 86, 75, 60};
        for (int y = 0; y <= 10; y++) {
            int at = y;
            Due.is("25.6, 14.4, 6.4, 1.6 at " + y, due[y], () -> x.girth(0, at));
        }
        x.form(200, 2000, 1999, 40);
        Due.is("just 1", 1999, () -> x.girth(1, 0));
        Due.is("just below 1", 2000, () -> x.girth(1, 1));
        Due.is("just below 1 above", 2000, () -> x.girth(1, 199));
        x.form(200, 2000, 50, 40);
        Due.is("1911.195", 89, () -> x.girth(2, 1));
        Due.is("0.195", 2000, () -> x.girth(2, 99));
    }

    private static void widthCutDown() {
        Due.sentence(4, "GIRTH * (k + 1) / STAVES, cut down, less GIRTH * k / STAVES, cut down");
        CaskYard x = new CaskYard();
        x.form(10, 100, 50, 40);
        int[] ofFifty = {1, 1, 1, 2};
        int[] ofHundred = {2, 3};
        for (int k = 0; k < 40; k++) {
            int at = k;
            Due.is("1.25 each, stave " + k, ofFifty[k % 4], () -> x.width(0, at, 0));
            Due.is("2.5 each, stave " + k, ofHundred[k % 2], () -> x.width(0, at, 5));
        }
        x.form(200, 2000, 1999, 40);
        Due.is("the last stave at the bilge", 50, () -> x.width(1, 39, 100));
        Due.is("the first stave at the foot", 49, () -> x.width(1, 0, 0));
        Due.is("the last stave at the top", 50, () -> x.width(1, 39, 200));
    }

    private static void holdsFromFootToTop() {
        Due.sentence(5, "HOLDS at a level l (0 to h)");
        CaskYard x = Yards.small();
        Due.is("nothing at level 0", 0, () -> x.holds(0, 0));
        Due.is("76916 * 113 / 1420 at level h", 6120, () -> x.holds(0, 10));
        x.form(200, 2000, 2000, 40);
        Due.is("nothing in the largest", 0, () -> x.holds(1, 0));
        Due.is("the most: 800000000 * 113 / 1420", 63661971, () -> x.holds(1, 200));
        x.form(10, 100, 50, 8);
        Due.is("the least: 2500 * 113 / 1420", 198, () -> x.holds(2, 1));
    }

    private static void holdsBelowTheLevel() {
        Due.sentence(5, "the sum over y from 0 to l - 1 of GIRTH * GIRTH");
        CaskYard x = Yards.small();
        int[] squares = {3600, 5625, 7396, 8836, 9801, 10000, 9801, 8836, 7396, 5625};
        int sum = 0;
        for (int l = 1; l <= 10; l++) {
            int at = l;
            sum += squares[l - 1];
            Due.is("level " + l, sum * 113 / 1420, () -> x.holds(0, at));
        }
    }

    private static void holdsCutDownOnce() {
        Due.sentence(5, "by 113, divided by 1420, cut down once");
        CaskYard x = new CaskYard();
        x.form(10, 102, 102, 8);
        int[] due = {0, 827, 1655, 2483, 3311, 4139, 4967, 5795, 6623, 7451, 8279};
        for (int l = 0; l <= 10; l++) {
            int at = l;
            Due.is("827.92 for each of " + l, due[l], () -> x.holds(0, at));
        }
        x.form(10, 710, 710, 8);
        Due.is("just 40115", 40115, () -> x.holds(1, 1));
        Due.is("ten times that", 401150, () -> x.holds(1, 10));
    }

    private static void headCutDown() {
        Due.sentence(7, "HEAD's width: GIRTH at 0 by 113, divided by 355, cut down");
        CaskYard x = new CaskYard();
        int[][] due = {{50, 15}, {60, 19}, {354, 112}, {355, 113}, {356, 113}, {709, 225}, {710, 226}, {2000, 636}};
        for (int[] d : due) {
            int form = x.form(10, 2000, d[0], 8);
            Due.is("head of " + d[0], d[1], () -> x.head(form));
        }
    }

    private static void newObject() {
        Due.sentence(1, "DAY 0, no FORMS, BOLTS, CASKS.");
        CaskYard x = new CaskYard();
        for (int what = 0; what < 4; what++) {
            int w = what;
            Due.is("count " + what, 0, () -> x.count(w));
        }
        noForm(x, 0);
        BoltEdgesTest.noBolt(x, 0);
        CaskEdgesTest.noCask(x, 0);
        Due.is("an object has its own forms", 0, () -> {
            eightForms();
            return new CaskYard().form(10, 100, 60, 8);
        });
    }

    private static void ninthForm() {
        Due.sentence(2, "NONE: there are 8");
        Yards.unchanged("the ninth", FormEdgesTest::eightForms, -1, x -> x.form(10, 100, 60, 8));
        Yards.unchanged("one like the last", FormEdgesTest::eightForms, -1, x -> x.form(24, 107, 67, 15));
        Yards.unchanged("one with a wrong number", FormEdgesTest::eightForms, -1, x -> x.form(9, 100, 60, 8));
    }

    private static void wrongForm() {
        Due.sentence(2, "or a number is not as told");
        int[][] wrong = {{11, 100, 60, 8}, {10, 99, 60, 8}, {10, 100, 101, 8}, {10, 100, 60, 7}, {8, 99, 49, 41}};
        for (int[] w : wrong) {
            Yards.unchanged(Arrays.toString(w), Yards::small, -1, x -> x.form(w[0], w[1], w[2], w[3]));
        }
        CaskYard x = new CaskYard();
        x.form(9, 100, 60, 8);
        Due.is("it takes no number", 0, () -> x.form(10, 100, 60, 8));
        x.form(10, 100, 60, 41);
        Due.is("nor does the next", 1, () -> x.form(10, 100, 60, 8));
    }

    private static void noForm(CaskYard x, int form) {
        Due.noSuch("girth of form " + form, () -> x.girth(form, 0));
        Due.noSuch("width of form " + form, () -> x.width(form, 0, 0));
        Due.noSuch("holds of form " + form, () -> x.holds(form, 0));
        Due.noSuch("level of form " + form, () -> x.level(form, 0));
        Due.noSuch("head of form " + form, () -> x.head(form));
        Due.noSuch("fewest of form " + form, () -> x.fewest(form));
        Due.noSuch("make of form " + form, () -> x.make(form));
        Due.noSuch("girth of form " + form + ", no such height", () -> x.girth(form, -1));
        Due.noSuch("width of form " + form + ", nor anything else", () -> x.width(form, -1, -1));
        Due.noSuch("holds of form " + form + ", no such level", () -> x.holds(form, -1));
        Due.noSuch("level of form " + form + ", much below 0", () -> x.level(form, -1));
    }

    private static void noSuchForm() {
        Due.sentence(3, "NoSuchElementException: no such FORM (as everywhere).");
        CaskYard one = Yards.ripe(116);
        noForm(one, 1);
        noForm(one, 7);
        CaskYard eight = eightForms();
        noForm(eight, 8);
        for (int form : Yards.FAR) {
            noForm(one, form);
            noForm(eight, form);
        }
        Due.is("the last there is", 67, () -> eight.girth(7, 0));
    }

    private static void noSuchHeight() {
        Due.sentence(3, "IllegalArgumentException: no such height.");
        CaskYard x = Yards.small();
        x.form(200, 2000, 50, 40);
        for (int y : Yards.FAR) {
            Due.illegal("small, " + y, () -> x.girth(0, y));
            Due.illegal("large, " + y, () -> x.girth(1, y));
        }
        Due.illegal("above the small one", () -> x.girth(0, 11));
        Due.is("not above the large one", 50 + 1950 - 1950 * 178 * 178 / 40000, () -> x.girth(1, 11));
        Due.illegal("above the large one", () -> x.girth(1, 201));
        Due.is("0", 60, () -> x.girth(0, 0));
        Due.is("h", 60, () -> x.girth(0, 10));
        Due.is("h of the large one", 50, () -> x.girth(1, 200));
    }

    private static void noSuchStave() {
        Due.sentence(4, "NoSuchElementException: also no such STAVE.");
        CaskYard x = Yards.small();
        x.form(200, 2000, 50, 40);
        for (int k : Yards.FAR) {
            Due.noSuch("small, " + k, () -> x.width(0, k, 0));
            Due.noSuch("large, " + k, () -> x.width(1, k, 0));
            Due.noSuch("nor such a height, " + k, () -> x.width(0, k, 11));
        }
        Due.noSuch("8 of 8", () -> x.width(0, 8, 0));
        Due.noSuch("40 of 40", () -> x.width(1, 40, 0));
        Due.is("0", 7, () -> x.width(0, 0, 0));
        Due.is("7 of 8", 8, () -> x.width(0, 7, 0));
        Due.is("8 of 40", 1, () -> x.width(1, 8, 0));
        Due.is("39 of 40", 2, () -> x.width(1, 39, 0));
    }

    private static void noSuchHeightOfStave() {
        Due.sentence(4, "IllegalArgumentException likewise.");
        CaskYard x = Yards.small();
        for (int y : Yards.FAR) {
            Due.illegal("height " + y, () -> x.width(0, 0, y));
        }
        Due.illegal("height 11", () -> x.width(0, 7, 11));
        Due.is("height 10", 8, () -> x.width(0, 7, 10));
        Due.is("height 0", 8, () -> x.width(0, 7, 0));
    }

    private static void noSuchLevel() {
        Due.sentence(5, "IllegalArgumentException: no such level.");
        CaskYard x = Yards.small();
        x.form(200, 2000, 2000, 40);
        for (int l : Yards.FAR) {
            Due.illegal("small, " + l, () -> x.holds(0, l));
            Due.illegal("large, " + l, () -> x.holds(1, l));
        }
        Due.illegal("11 of 10", () -> x.holds(0, 11));
        Due.illegal("201 of 200", () -> x.holds(1, 201));
        Due.is("11 of 200", 44000000L * 113 / 1420, () -> x.holds(1, 11));
    }

    private static void leastLevel() {
        Due.sentence(6, "The least level at which it HOLDS at least so much");
        CaskYard x = Yards.small();
        int[] holds = {0, 286, 734, 1322, 2025, 2805, 3601, 4381, 5084, 5673, 6120};
        Due.is("nothing", 0, () -> x.level(0, 0));
        for (int l = 1; l <= 10; l++) {
            int at = l;
            Due.is("one more than level " + (l - 1), l, () -> x.level(0, holds[at - 1] + 1));
            Due.is("all of level " + l, l, () -> x.level(0, holds[at]));
        }
        x.form(200, 2000, 2000, 40);
        x.form(10, 710, 710, 8);
        Due.is("just 40115", 1, () -> x.level(2, 40115));
        Due.is("just full", 10, () -> x.level(2, 401150));
        Due.is("the largest, full", 200, () -> x.level(1, 63661971));
        Due.is("the largest, a level less", 199, () -> x.level(1, 63343661));
        Due.is("the largest, just more", 200, () -> x.level(1, 63343662));
    }

    private static void noLevel() {
        Due.sentence(6, "NONE if none does.");
        CaskYard x = Yards.small();
        Due.is("one too much", -1, () -> x.level(0, 6121));
        Due.is("far too much", -1, () -> x.level(0, MAX));
        x.form(200, 2000, 2000, 40);
        Due.is("one too much for the largest", -1, () -> x.level(1, 63661972));
        Due.is("far too much for the largest", -1, () -> x.level(1, MAX));
    }

    private static void muchBelowNought() {
        Due.sentence(6, "IllegalArgumentException: much is below 0.");
        CaskYard x = Yards.small();
        for (int much : new int[] {-1, -2, -6120, MIN}) {
            Due.illegal("much " + much, () -> x.level(0, much));
        }
        Due.is("0 is not below 0", 0, () -> x.level(0, 0));
    }
}
