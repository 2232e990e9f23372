import java.util.Arrays;

/** The sentences on what BOLTS give and how they are cut that name an edge, one by one: Terms 2, promises 13, 14. */
public final class CutEdgesTest {
    private CutEdgesTest() {
    }

    public static void main(String[] args) {
        sawTakesTwo();
        allAlike();
        gives();
        givesFromTheBeginning();
        fewestBolts();
        firstOfLikeSets();
        cutByEachShare();
        cutEachPart();
        cutWide();
        cutWideByPartsBehind();
        cutNarrow();
        cutAtTheBeginning();
        cutToTheLast();
        cutInOrder();
        wouldTake();
        noSetFewest();
        firstEight();
        thirtyFirstCask();
        noSetMake();
        Due.end("CutEdgesTest");
    }

    private static CaskYard ripeWood(int width, int... flaws) {
        CaskYard x = Yards.wood(width, flaws);
        x.days(1095);
        return x;
    }

    private static int fewestOf(int width, int... shape) {
        CaskYard x = Yards.ripe(width);
        return x.fewest(x.form(shape[0], shape[1], shape[2], shape[3]));
    }

    private static void sawTakesTwo() {
        Due.sentence(13, "a WIDTH at h / 2, and 2 more for the saw");
        Due.is("four of 14, four of 15", 1, () -> Yards.ripe(116).fewest(0));
        Due.is("four of 14, four of 15, one too little", -1, () -> Yards.ripe(115).fewest(0));
        Due.is("twenty of 4, twenty of 5", 1, () -> fewestOf(180, 10, 100, 50, 40));
        Due.is("twenty of 4, twenty of 5, one too little", -1, () -> fewestOf(179, 10, 100, 50, 40));
        Due.is("by the bilge, not the head", 1, () -> fewestOf(116, 200, 100, 100, 8));
        CaskYard x = Yards.ripe(572, 572, 572, 364);
        x.form(200, 2000, 50, 40);
        Due.is("forty of 52, eleven of a bolt", 4, () -> x.fewest(1));
        CaskYard y = Yards.ripe(572, 572, 572, 363);
        y.form(200, 2000, 50, 40);
        Due.is("forty of 52, one too little", -1, () -> y.fewest(1));
    }

    private static void allAlike() {
        Due.sentence(14, "if all are alike they are NARROW");
        Due.is("eight of 22", 1, () -> fewestOf(176, 10, 160, 60, 8));
        Due.is("eight of 22, one too little", -1, () -> fewestOf(175, 10, 160, 60, 8));
        CaskYard x = Yards.ripe(87, 110);
        x.form(10, 160, 60, 8);
        Due.is("made of two", 0, () -> x.make(1));
        Due.same("as many as fit, then the rest", "0 0 0 1 1 1 1 1", Yards.boltsOf(x, 0));
        Due.same("what is left", "66-87 | ", Yards.allParts(x));
    }

    private static void gives() {
        Due.sentence(13,
                "A set of BOLTS GIVES them, if its CLEAR parts, each from its beginning on, can be cut into them all.");
        for (int a = 1; a < 116; a++) {
            int wide = a % 14;
            int narrow = (a - 15 * wide) / 14;
            // Both bolts are 116 together: none of it may be left.
            boolean cut = a >= 15 * wide && wide <= 4 && narrow <= 4;
            int first = a;
            Due.is("two of " + a + " and " + (116 - a), cut ? 2 : -1, () -> Yards.ripe(first, 116 - first).fewest(0));
            Due.is("one with a flaw at " + a, cut ? 1 : -1, () -> ripeWood(117, first).fewest(0));
        }
        // Two of the three give three pieces, one of 43 loses a wide one by that, one of 42 two.
        Due.is("three of 42, 43, 43", 3, () -> Yards.ripe(42, 43, 43).fewest(0));
        Due.is("three of 43, 42, 43", 3, () -> Yards.ripe(43, 42, 43).fewest(0));
        Due.is("three of 43, 43, 42", 3, () -> Yards.ripe(43, 43, 42).fewest(0));
        Due.is("three of 42, 42, 43", -1, () -> Yards.ripe(42, 42, 43).fewest(0));
        Due.is("a flaw at its beginning", 1, () -> ripeWood(117, 0).fewest(0));
        Due.is("a flaw at its end", 1, () -> ripeWood(117, 116).fewest(0));
    }

    private static void givesFromTheBeginning() {
        Due.sentence(14, "each from its beginning on");
        CaskYard x = ripeWood(122, 4);
        x.flaw(0, 0, 4);
        Due.is("a part that begins at 5", 0, () -> x.make(0));
        Due.same("one is left", "121-122", Yards.parts(x, 0));
        CaskYard y = ripeWood(200, 14, 30);
        y.make(0);
        Due.same("14, 15 and the rest", "118-200", Yards.parts(y, 0));
    }

    private static void fewestBolts() {
        Due.sentence(13, "of all RIPE ones that GIVE one with the fewest BOLTS");
        Due.is("one for two", 1, () -> Yards.ripe(28, 88, 116).fewest(0));
        Due.is("two for three", 2, () -> Yards.ripe(43, 43, 43, 74, 1).fewest(0));
        Due.is("three for four", 3, () -> Yards.ripe(29, 29, 29, 29, 29, 58).fewest(0));
        Due.is("eight", 8, () -> Yards.ripe(14, 15, 14, 15, 14, 15, 14, 15).fewest(0));
        CaskYard x = Yards.ripe(28, 88, 116);
        x.make(0);
        Due.same("make takes it", "0-28 | 0-88 | ", Yards.allParts(x));
        CaskYard y = Yards.ripe(28, 88);
        y.bolt(116);
        Due.is("one that is not ripe", 2, () -> y.fewest(0));
    }

    private static void firstOfLikeSets() {
        Due.sentence(14, "of like ones the first (as a row of numbers, rising)");
        CaskYard x = Yards.ripe(28, 60, 56, 88);
        x.make(0);
        Due.same("0 3 is before 1 2", "0 3 0 3 3 3 3 3", Yards.boltsOf(x, 0));
        CaskYard y = Yards.ripe(116, 116);
        y.make(0);
        Due.same("0 is before 1", " | 0-116", Yards.allParts(y));
        CaskYard z = Yards.ripe(44, 44, 44, 44);
        z.make(0);
        Due.same("0 1 2 is the first", "0 0 1 0 2 1 2 1", Yards.boltsOf(z, 0));
        CaskYard w = Yards.ripe(1, 60, 1, 60, 60);
        w.make(0);
        Due.same("1 3 is before 1 4 and 3 4", "0-1 |  | 0-1 | 56-60 | 0-60", Yards.allParts(w));
    }

    /** Two BOLTS of which none may be left: so many WIDE and NARROW pieces of the first, the others of the second. */
    private static void cutByEachShare() {
        Due.sentence(14, "CUT: its parts in order (BOLT by BOLT)");
        for (int share = 1; share < 24; share++) {
            int wide = share / 5;
            int narrow = share % 5;
            int first = 15 * wide + 14 * narrow;
            CaskYard x = Yards.ripe(first, 116 - first);
            StringBuilder due = new StringBuilder();
            for (int j = 0; j < 4; j++) {
                due.append(j < narrow ? "0 " : "1 ").append(j < wide ? "0 " : "1 ");
            }
            String what = wide + " wide and " + narrow + " narrow ones of the first";
            Due.is(what, 0, () -> x.make(0));
            Due.same(what, due.toString().trim(), Yards.boltsOf(x, 0));
            Due.same(what + ", nothing left", " | ", Yards.allParts(x));
        }
    }

    private static void cutEachPart() {
        Due.sentence(14, "its parts in order");
        // 16 wide ones of 13, 16 narrow ones of 12: four parts of each of eight bolts, and all of them.
        CaskYard x = Yards.ripe(53, 53, 53, 53, 53, 53, 53, 53);
        x.form(10, 336, 60, 32);
        for (int b = 0; b < 8; b++) {
            x.flaw(b, 12, 13);
            x.flaw(b, 26, 27);
            x.flaw(b, 39, 40);
        }
        Due.is("eight bolts", 8, () -> x.fewest(1));
        Due.is("made", 0, () -> x.make(1));
        for (int k = 0; k < 32; k++) {
            int at = k;
            Due.is("stave " + k, k / 4, () -> x.stave(0, at, 0));
        }
        Due.same("nothing left", " |  |  |  |  |  |  | ", Yards.allParts(x));
    }

    private static void cut(String bolts, String parts, int... widths) {
        CaskYard x = Yards.ripe(widths);
        String what = Arrays.toString(widths);
        Due.is(what, 0, () -> x.make(0));
        Due.same(what + ", staves", bolts, Yards.boltsOf(x, 0));
        Due.same(what + ", parts", parts, Yards.allParts(x));
    }

    private static void cutWide() {
        Due.sentence(14, "of each as many WIDE ones as can be, so that what is left can still be given");
        cut("1 0 1 0 1 1 1 1", "30-42 | 86-88", 42, 88);
        cut("1 0 1 0 1 1 1 1", "30-43 | ", 43, 86);
        cut("0 0 0 1 1 1 1 1", " | 73-74", 43, 74);
        cut("0 1 0 1 1 1 1 1", " | ", 28, 88);
        cut("0 0 1 1 1 1 1 1", " | 87-88", 29, 88);
        cut("1 0 1 0 1 0 1 0", "60-73 | ", 73, 56);
    }

    private static void cutWideByPartsBehind() {
        Due.sentence(14, "given by the parts behind it");
        cut("1 0 1 0 2 1 2 2", "30-43 |  | ", 43, 43, 43);
        cut("0 0 1 0 2 0 2 1", " | 29-42 | 28-29", 59, 42, 29);
        CaskYard x = ripeWood(131, 43, 87);
        x.make(0);
        Due.same("parts of one bolt", "30-43", Yards.parts(x, 0));
    }

    private static void cutNarrow() {
        Due.sentence(14, "then as many NARROW ones as fit and are wanted");
        cut("0 0 1 0 1 0 1 0", " | 42-56", 74, 56);
        cut("0 0 1 0 1 0 1 0", "74-75 | 42-56", 75, 56);
        cut("0 0 0 0 1 0 1 0", "88-100 | 28-60", 100, 60);
        cut("0 0 0 0 0 0 0 0", "116-131", 131);
        cut("0 4 1 4 2 4 3 4", " |  |  |  | ", 14, 14, 14, 14, 60);
    }

    private static void cutAtTheBeginning() {
        Due.sentence(14, "They stand at the part's beginning, which then begins behind them");
        CaskYard x = Yards.wood(600);
        x.flaw(0, 0, 100);
        x.flaw(0, 150, 160);
        x.days(1095);
        x.make(0);
        Due.same("four wide ones in two parts", "145-150 231-600", Yards.parts(x, 0));
        x.make(0);
        Due.same("and again", "145-150 347-600", Yards.parts(x, 0));
    }

    private static void cutToTheLast() {
        Due.sentence(14, "what is left of no width is no part any more");
        CaskYard x = ripeWood(118, 15, 30);
        Due.is("three parts, 15, 14 and the rest", 0, () -> x.make(0));
        Due.noSuch("no part at all", () -> x.clear(0, 0, 0));
        Due.is("a flaw then", 0, () -> x.flaw(0, 0, 1));
        Due.is("no cask any more", -1, () -> x.fewest(0));
        CaskYard y = ripeWood(120, 15, 30);
        y.make(0);
        Due.is("the third is the first", 118, () -> y.clear(0, 0, 0));
        Due.is("its end stays", 120, () -> y.clear(0, 0, 1));
        Due.noSuch("and the only one", () -> y.clear(0, 1, 0));
    }

    private static void cutInOrder() {
        Due.sentence(14, "WIDE pieces are the STAVES of that WIDTH in order, as they are cut, NARROW ones likewise.");
        // Widths 12 13 12 13 13 12 13 13: five wide ones of 15, three narrow ones of 14.
        CaskYard x = Yards.ripe(45, 72);
        x.form(10, 101, 60, 8);
        x.make(1);
        Due.same("three wide ones, then all others", "1 0 1 0 0 1 1 1", Yards.boltsOf(x, 0));
        // Widths 13 13 14 13 13 14 13 14: three wide ones of 16, five narrow ones of 15.
        CaskYard y = Yards.ripe(47, 76);
        y.form(10, 107, 60, 8);
        y.make(1);
        Due.same("two wide ones and a narrow one, then all others", "0 1 0 1 1 0 1 1", Yards.boltsOf(y, 0));
    }

    private static void wouldTake() {
        Due.sentence(13, "How many BOLTS a CASK of a FORM would take");
        Yards.unchanged("one", () -> Yards.ripe(28, 88, 116), 1, x -> x.fewest(0));
        Yards.unchanged("two", () -> Yards.ripe(28, 88, 115), 2, x -> x.fewest(0));
        Yards.unchanged("none", () -> Yards.ripe(28, 87), -1, x -> x.fewest(0));
        Yards.unchanged("one for a 31st cask", CutEdgesTest::thirtyCasks, 1, x -> x.fewest(0));
    }

    private static void noSetFewest() {
        Due.sentence(13, "NONE if no set GIVES it.");
        Due.is("no bolts", -1, () -> Yards.ripe().fewest(0));
        Due.is("none that is ripe", -1, () -> Yards.wood(600).fewest(0));
        Due.is("one too little", -1, () -> Yards.ripe(115).fewest(0));
        Due.is("just enough", 1, () -> Yards.ripe(116).fewest(0));
        Due.is("many that are too small", -1, () -> Yards.ripe(13, 13, 13, 13, 13, 13, 13, 13).fewest(0));
        Due.is("no wide one", -1, () -> Yards.ripe(14, 14, 14, 14, 14, 14, 14, 14).fewest(0));
        Due.is("one wide one too few", -1, () -> Yards.ripe(15, 14, 15, 14, 15, 14, 14, 14).fewest(0));
        Due.is("one piece too few", -1, () -> Yards.ripe(27, 27, 27, 27, 27, 27, 27).fewest(0));
        CaskYard y = Yards.ripe(104, 99);
        y.form(10, 120, 60, 40);
        Due.is("39 of 5, 4 left of both", -1, () -> y.fewest(1));
        CaskYard z = Yards.ripe(104, 100);
        z.form(10, 120, 60, 40);
        Due.is("40 of 5", 2, () -> z.fewest(1));
        CaskYard x = Yards.ripe(600);
        x.flaw(0, 0, 600);
        Due.is("no wood left", -1, () -> x.fewest(0));
    }

    private static void firstEight() {
        Due.sentence(13, "(Only the first 8 RIPE ones are looked at, here and in make().)");
        Due.is("the eighth", 1, () -> Yards.ripe(1, 1, 1, 1, 1, 1, 1, 116).fewest(0));
        Due.is("the ninth", -1, () -> Yards.ripe(1, 1, 1, 1, 1, 1, 1, 1, 116).fewest(0));
        Due.is("the eighth in make", 0, () -> Yards.ripe(1, 1, 1, 1, 1, 1, 1, 116).make(0));
        Yards.unchanged("the ninth in make", () -> Yards.ripe(1, 1, 1, 1, 1, 1, 1, 1, 116), -1, x -> x.make(0));
        Due.is("eight, one short, and a ninth", -1,
                () -> Yards.ripe(14, 15, 14, 15, 14, 15, 14, 14, 15).fewest(0));
        Due.is("a better ninth", 8, () -> Yards.ripe(14, 15, 14, 15, 14, 15, 14, 15, 116).fewest(0));
        CaskYard x = Yards.ripe(14, 15, 14, 15, 14, 15, 14, 15, 116);
        x.make(0);
        Due.same("a better ninth in make", "0 1 2 3 4 5 6 7", Yards.boltsOf(x, 0));
        Due.is("used up ones are looked at all the same", -1, () -> x.fewest(0));
    }

    private static CaskYard thirtyCasks() {
        CaskYard x = Yards.ripe(600, 600, 600, 600, 600, 600, 600);
        for (int i = 0; i < 30; i++) {
            x.make(0);
        }
        return x;
    }

    private static void thirtyFirstCask() {
        Due.sentence(14, "NONE, and nothing changes: there are 30");
        Due.is("there are", 30, () -> thirtyCasks().count(3));
        Yards.unchanged("the 31st", CutEdgesTest::thirtyCasks, -1, x -> x.make(0));
        Yards.unchanged("the 31st of no form", CutEdgesTest::thirtyCasks, "NSE", x -> x.make(1));
    }

    private static void noSetMake() {
        Due.sentence(14, "or no set GIVES it.");
        Yards.unchanged("no bolts", () -> Yards.ripe(), -1, x -> x.make(0));
        Yards.unchanged("none that is ripe", () -> Yards.wood(600), -1, x -> x.make(0));
        Yards.unchanged("one too little", () -> Yards.ripe(115), -1, x -> x.make(0));
        Yards.unchanged("two that can't be cut", () -> Yards.ripe(27, 89), -1, x -> x.make(0));
        Yards.unchanged("what another form would take", () -> {
            CaskYard x = Yards.ripe(175);
            x.form(10, 160, 60, 8);
            return x;
        }, -1, x -> x.make(1));
        Yards.unchanged("what two casks left", Yards::two, -1, x -> x.make(0));
        CaskYard x = Yards.ripe(115);
        x.make(0);
        x.bolt(116);
        x.days(1095);
        Due.is("it takes no number", 0, () -> x.make(0));
    }
}
