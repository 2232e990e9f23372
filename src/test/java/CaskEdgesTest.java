import java.util.Arrays;

/** The sentences on CASKS and STAVES that name an edge, one by one: Terms 3, promises 15 to 18, 22, 23, 26. */
public final class CaskEdgesTest {
    private static final int MIN = Integer.MIN_VALUE;
    private static final int MAX = Integer.MAX_VALUE;

    private CaskEdgesTest() {
    }

    public static void main(String[] args) {
        calls();
        caskNumbers();
        kinds();
        nothingBarsAtFirst();
        anyStaveBars();
        oneWidth();
        withBoltAndPast();
        firstRipeBolt();
        firstSuchPart();
        pastIsNone();
        noSuchCask();
        noSuchStave();
        firstAndLastForm();
        barsFromNowOn();
        noSuchKinds();
        noSuchKind();
        swapOneCask();
        swapUnlikeWidths();
        swapNoSuch();
        renewNone();
        countsWhenFull();
        countAnotherWhat();
        Due.end("CaskEdgesTest");
    }

    private static void calls() {
        Due.sentence(1, "An object is used for at most 512 calls after it has been made");
        CaskYard x = new CaskYard();
        for (int i = 0; i < 8; i++) {
            x.form(10, 100, 60, 8);
        }
        for (int i = 0; i < 40; i++) {
            x.bolt(600);
        }
        x.days(1095);
        for (int i = 0; i < 30; i++) {
            x.make(i % 8);
        }
        for (int i = 0; i < 400; i++) {
            x.tell(i % 10, i, i % 16);
        }
        for (int c = 0; c < 10; c++) {
            int cask = c;
            Due.is("a full row, call " + (480 + c), -1, () -> x.tell(cask, 0, 0));
        }
        for (int c = 20; c < 40; c++) {
            int cask = c;
            Due.is("call " + (470 + c), c < 30 ? String.valueOf(c % 8) : "NSE", () -> x.formOf(cask));
        }
        Due.is("call 510", -1, () -> x.make(0));
        Due.is("call 511", 6120, () -> x.weighs(9, 10));
        Due.is("call 512", 30, () -> x.count(3));
    }

    private static void caskNumbers() {
        Due.sentence(14, "CASKS 0 to 29");
        CaskYard x = Yards.ripe(600, 600, 600, 600, 600, 600);
        for (int i = 0; i < 30; i++) {
            Due.is("cask " + i, i, () -> x.make(0));
        }
        Due.is("the first one's bolt", 0, () -> x.stave(0, 0, 0));
        Due.is("the fifth one's bolt", 0, () -> x.stave(4, 7, 0));
        Due.is("the sixth one's bolt", 1, () -> x.stave(5, 0, 0));
        Due.is("the last one's bolt", 5, () -> x.stave(29, 7, 0));
        Due.is("an entry of the last one", 1, () -> x.tell(29, 1095, 15));
    }

    private static void kinds() {
        Due.sentence(15, "its PAST: KINDS (0 to 15) that it met");
        CaskYard x = Yards.two();
        Due.same("none met", "0 0 0 0 0 0 0 0", Yards.pastsOf(x, 0));
        x.tell(0, 0, 0);
        Due.same("0 met", "1 1 1 1 1 1 1 1", Yards.pastsOf(x, 0));
        x.tell(0, 0, 0);
        Due.same("0 met again", "1 1 1 1 1 1 1 1", Yards.pastsOf(x, 0));
        x.tell(1, 0, 15);
        Due.is("15 met", 32768, () -> x.stave(1, 7, 1));
        for (int kind = 1; kind < 16; kind++) {
            x.tell(0, 0, kind);
        }
        Due.is("all met", 65535, () -> x.stave(0, 0, 1));
        Due.is("all met, the last stave", 65535, () -> x.stave(0, 7, 1));
    }

    private static void nothingBarsAtFirst() {
        Due.sentence(17, "BARS: whether a KIND a bars a KIND b (none at first).");
        CaskYard x = new CaskYard();
        for (int pair = 0; pair < 256; pair++) {
            int a = pair / 16;
            int b = pair % 16;
            Due.is(a + " bars " + b, false, () -> x.bars(a, b, false));
        }
        x.bars(15, 0, true);
        Due.is("not the other way round", false, () -> x.bars(0, 15, false));
        Due.is("but this way", true, () -> x.bars(15, 0, true));
        Due.is("an object has its own", false, () -> new CaskYard().bars(15, 0, false));
    }

    private static void anyStaveBars() {
        Due.sentence(18, "A KIND MAY come into a CASK, if none of the PAST of any of its STAVES bars it.");
        for (int stave = 0; stave < 8; stave++) {
            int k = stave;
            CaskYard x = Yards.two();
            x.bars(3, 5, true);
            Due.is("no past", true, () -> x.may(0, 5));
            x.tell(1, 0, 3);
            Due.is("another cask's past", true, () -> x.may(0, 5));
            x.swap(0, k, 1, k);
            Due.is("the past of stave " + k + " alone", false, () -> x.may(0, 5));
            Due.is("of the seven others", false, () -> x.may(1, 5));
            Due.is("another kind", true, () -> x.may(0, 4));
            Due.is("the kind that bars", true, () -> x.may(0, 3));
            x.renew(0, k);
            Due.is("stave " + k + " is cut anew", true, () -> x.may(0, 5));
        }
        CaskYard y = Yards.two();
        y.bars(0, 15, true);
        y.bars(15, 15, true);
        Due.is("the last kind", true, () -> y.may(0, 15));
        y.tell(0, 0, 15);
        Due.is("the last kind bars itself", false, () -> y.may(0, 15));
        y.tell(1, 0, 0);
        Due.is("the first kind bars the last", false, () -> y.may(1, 15));
        y.bars(0, 15, false);
        Due.is("no more", true, () -> y.may(1, 15));
    }

    private static void oneWidth() {
        Due.sentence(22, "two STAVES of two CASKS that are of one WIDTH at h / 2 change places");
        for (int pair = 0; pair < 64; pair++) {
            int a = pair / 8;
            int b = pair % 8;
            Due.is("12 or 13 of " + a + " and " + b, a % 2 == b % 2, () -> Yards.two().swap(0, a, 1, b));
        }
        CaskYard x = Yards.ripe(600);
        x.form(200, 100, 50, 8);
        x.form(10, 120, 60, 10);
        x.form(10, 112, 60, 8);
        for (int form = 0; form < 4; form++) {
            x.make(form);
        }
        Due.is("unlike at the head", true, () -> x.swap(0, 1, 1, 7));
        Due.is("of another form, 12 and 12", true, () -> x.swap(0, 0, 2, 9));
        Due.is("of another form, 13 and 12", false, () -> x.swap(0, 1, 2, 9));
        Due.is("of another form, 12 and 14", false, () -> x.swap(0, 0, 3, 0));
    }

    private static void withBoltAndPast() {
        Due.sentence(22, "change places (with BOLT and PAST)");
        CaskYard x = Yards.ripe(116, 116);
        x.make(0);
        x.make(0);
        x.tell(0, 0, 3);
        x.tell(1, 0, 4);
        x.swap(0, 0, 1, 6);
        Due.same("bolts", "1 0 0 0 0 0 0 0", Yards.boltsOf(x, 0));
        Due.same("the other one's bolts", "1 1 1 1 1 1 0 1", Yards.boltsOf(x, 1));
        Due.same("pasts", "16 8 8 8 8 8 8 8", Yards.pastsOf(x, 0));
        Due.same("the other one's pasts", "16 16 16 16 16 16 8 16", Yards.pastsOf(x, 1));
        Due.is("what it held stays", 3, () -> x.held(0, 0, 1095));
        Due.is("its width stays", 12, () -> x.stave(0, 0, 2));
    }

    private static void firstRipeBolt() {
        Due.sentence(23, "the first RIPE BOLT that has a CLEAR part in which its PIECE fits");
        CaskYard x = Yards.ripe(116, 13, 14, 15, 14);
        x.make(0);
        Due.is("a wide one: 15, not 14", 3, () -> x.renew(0, 1));
        Due.is("a narrow one: 14, not 13", 2, () -> x.renew(0, 0));
        Due.is("the next narrow one", 4, () -> x.renew(0, 0));
        x.bolt(14);
        x.days(1094);
        Due.is("one that is not ripe", -1, () -> x.renew(0, 0));
        x.days(1);
        Due.is("the same one, ripe", 5, () -> x.renew(0, 0));
        CaskYard y = Yards.ripe(116, 1, 1, 1, 1, 1, 1, 1, 1, 14);
        y.make(0);
        Due.is("behind the first eight", 9, () -> y.renew(0, 0));
        CaskYard z = Yards.ripe(130, 200);
        z.make(0);
        Due.is("what its cask left", 0, () -> z.renew(0, 0));
        Due.same("to the last", " | 0-200", Yards.allParts(z));
    }

    private static void firstSuchPart() {
        Due.sentence(23, "the first such part, from its beginning on");
        CaskYard x = Yards.ripe(116, 100);
        x.make(0);
        x.flaw(1, 14, 20);
        x.flaw(1, 35, 40);
        Due.is("a wide one", 1, () -> x.renew(0, 1));
        Due.same("the second part, used up", "0-14 40-100", Yards.parts(x, 1));
        Due.is("a wide one again", 1, () -> x.renew(0, 1));
        Due.same("the last part", "0-14 55-100", Yards.parts(x, 1));
        Due.is("a narrow one", 1, () -> x.renew(0, 0));
        Due.same("the first part, used up", "55-100", Yards.parts(x, 1));
        Due.is("a narrow one again", 1, () -> x.renew(0, 0));
        Due.same("the only part", "69-100", Yards.parts(x, 1));
    }

    private static void pastIsNone() {
        Due.sentence(23, "then its PAST is none");
        CaskYard x = Yards.two();
        x.tell(0, 0, 3);
        x.tell(0, 0, 15);
        x.renew(0, 7);
        Due.same("but the others' is not", "32776 32776 32776 32776 32776 32776 32776 0", Yards.pastsOf(x, 0));
        Due.is("its bolt", 1, () -> x.stave(0, 7, 0));
        Due.is("its width", 13, () -> x.stave(0, 7, 2));
        Due.is("what the cask held stays", 15, () -> x.held(0, 0, 1095));
    }

    static void noCask(CaskYard x, int cask) {
        String of = " of cask " + cask;
        Due.noSuch("stave" + of, () -> x.stave(cask, 0, 0));
        Due.noSuch("formOf" + of, () -> x.formOf(cask));
        Due.noSuch("may" + of, () -> x.may(cask, 0));
        Due.noSuch("tell" + of, () -> x.tell(cask, 0, 0));
        Due.noSuch("held" + of, () -> x.held(cask, 0, 0));
        Due.noSuch("lacks" + of, () -> x.lacks(cask, 0, 0, 0));
        Due.noSuch("swap" + of, () -> x.swap(cask, 0, 0, 0));
        Due.noSuch("swap with one" + of, () -> x.swap(0, 0, cask, 0));
        Due.noSuch("swap with itself" + of, () -> x.swap(cask, 0, cask, 0));
        Due.noSuch("renew" + of, () -> x.renew(cask, 0));
        Due.noSuch("weighs" + of, () -> x.weighs(cask, 0));
        Due.noSuch("may, no such kind," + of, () -> x.may(cask, 16));
        Due.noSuch("tell, no such kind," + of, () -> x.tell(cask, 0, 17));
        Due.noSuch("tell, no such day," + of, () -> x.tell(cask, -1, 0));
        Due.noSuch("lacks, no such days," + of, () -> x.lacks(cask, 1, 0, 0));
        Due.noSuch("weighs, no such level," + of, () -> x.weighs(cask, -1));
    }

    private static void noSuchCask() {
        Due.sentence(15, "NoSuchElementException: no such CASK (as everywhere)");
        CaskYard two = Yards.two();
        noCask(two, 2);
        noCask(two, 29);
        for (int cask : Yards.FAR) {
            noCask(two, cask);
        }
        CaskYard thirty = Yards.ripe(600, 600, 600, 600, 600, 600);
        for (int i = 0; i < 30; i++) {
            thirty.make(0);
        }
        noCask(thirty, 30);
        for (int cask : Yards.FAR) {
            noCask(thirty, cask);
        }
        Due.is("the last there is", 0, () -> thirty.formOf(29));
    }

    private static void noSuchStave() {
        Due.sentence(15, "STAVE, what.");
        CaskYard x = Yards.ripe(600, 600, 600, 600, 600);
        x.form(200, 2000, 2000, 40);
        x.make(0);
        x.make(1);
        for (int k : Yards.FAR) {
            Due.noSuch("stave " + k + " of 8", () -> x.stave(0, k, 0));
            Due.noSuch("stave " + k + " of 40", () -> x.stave(1, k, 0));
            Due.noSuch("renew " + k, () -> x.renew(0, k));
            Due.noSuch("what " + k, () -> x.stave(0, 0, k));
        }
        Due.noSuch("stave 8 of 8", () -> x.stave(0, 8, 2));
        Due.noSuch("stave 40 of 40", () -> x.stave(1, 40, 2));
        Due.noSuch("renew 8 of 8", () -> x.renew(0, 8));
        Due.noSuch("renew 40 of 40", () -> x.renew(1, 40));
        Due.noSuch("what 3", () -> x.stave(0, 0, 3));
        Due.is("stave 0 of 8", 12, () -> x.stave(0, 0, 2));
        Due.is("stave 7 of 8", 13, () -> x.stave(0, 7, 2));
        Due.is("stave 8 of 40", 50, () -> x.stave(1, 8, 2));
        Due.is("stave 39 of 40", 50, () -> x.stave(1, 39, 2));
    }

    private static void firstAndLastForm() {
        Due.sentence(16, "The FORM of a CASK.");
        CaskYard x = Yards.ripe(600);
        for (int form = 1; form < 8; form++) {
            x.form(10, 100, 60, 8);
        }
        x.make(7);
        x.make(0);
        Due.is("the last form", 7, () -> x.formOf(0));
        Due.is("the first form", 0, () -> x.formOf(1));
        Due.noSuch("no cask", () -> x.formOf(2));
    }

    private static void barsFromNowOn() {
        Due.sentence(17, "Whether a KIND bars another one from now on: whether it did.");
        CaskYard x = Yards.two();
        x.tell(0, 0, 15);
        x.tell(0, 0, 0);
        for (int[] pair : new int[][] {{0, 0}, {0, 15}, {15, 0}, {15, 15}}) {
            int a = pair[0];
            int b = pair[1];
            String what = a + " bars " + b + ", ";
            Due.is(what + "did not", false, () -> x.bars(a, b, true));
            Due.is(what + "did", true, () -> x.bars(a, b, true));
            Due.is(what + "so it may not", false, () -> x.may(0, b));
            Due.is(what + "did until now", true, () -> x.bars(a, b, false));
            Due.is(what + "does no more", false, () -> x.bars(a, b, false));
            Due.is(what + "so it may", true, () -> x.may(0, b));
        }
        x.bars(15, 0, true);
        Due.is("what came in before stays", 0, () -> x.held(0, 0, 1095));
    }

    private static void noSuchKinds() {
        Due.sentence(17, "IllegalArgumentException: no such KINDS.");
        for (int kind : new int[] {MIN, -16, -1, 16, 17, 32, MAX}) {
            Yards.unchanged("a " + kind, Yards::two, "IAE", x -> x.bars(kind, 0, true));
            Yards.unchanged("b " + kind, Yards::two, "IAE", x -> x.bars(0, kind, true));
            Yards.unchanged("both " + kind, Yards::two, "IAE", x -> x.bars(kind, kind, false));
        }
        Due.is("0 and 15", false, () -> new CaskYard().bars(0, 15, true));
        Due.is("15 and 0", false, () -> new CaskYard().bars(15, 0, true));
    }

    private static void noSuchKind() {
        Due.sentence(18, "IllegalArgumentException: no such KIND.");
        CaskYard x = Yards.two();
        for (int kind : new int[] {MIN, -16, -1, 16, 17, 32, MAX}) {
            Due.illegal("kind " + kind, () -> x.may(0, kind));
        }
        Due.is("kind 0", true, () -> x.may(0, 0));
        Due.is("kind 15", true, () -> x.may(0, 15));
    }

    /** Unlike pasts and bolts, so that STAVES that change places are seen. */
    private static CaskYard unlike() {
        CaskYard x = Yards.ripe(116, 130);
        x.make(0);
        x.make(0);
        x.tell(0, 0, 3);
        x.renew(0, 0);
        return x;
    }

    private static void swapOneCask() {
        Due.sentence(22, "False: both CASKS are one");
        Yards.unchanged("two staves of one width", CaskEdgesTest::unlike, false, x -> x.swap(0, 0, 0, 2));
        Yards.unchanged("one stave", CaskEdgesTest::unlike, false, x -> x.swap(0, 0, 0, 0));
        Yards.unchanged("two staves of unlike widths", CaskEdgesTest::unlike, false, x -> x.swap(0, 0, 0, 1));
        Due.is("two casks", true, () -> unlike().swap(0, 0, 1, 2));
    }

    private static void swapUnlikeWidths() {
        Due.sentence(22, "or they are of unlike WIDTHS");
        Yards.unchanged("12 and 13", CaskEdgesTest::unlike, false, x -> x.swap(0, 0, 1, 1));
        Yards.unchanged("13 and 12", CaskEdgesTest::unlike, false, x -> x.swap(0, 7, 1, 6));
        Due.is("13 and 13", true, () -> unlike().swap(0, 7, 1, 1));
    }

    private static void swapNoSuch() {
        Due.sentence(22, "NoSuchElementException: no such CASKS, STAVES.");
        CaskYard x = Yards.ripe(600);
        x.form(10, 120, 60, 10);
        x.make(0);
        x.make(1);
        for (int i : Yards.FAR) {
            Due.noSuch("cask " + i, () -> x.swap(i, 0, 1, 0));
            Due.noSuch("stave " + i, () -> x.swap(0, i, 1, 0));
            Due.noSuch("other " + i, () -> x.swap(0, 0, i, 0));
            Due.noSuch("another " + i, () -> x.swap(0, 0, 1, i));
            Due.noSuch("stave " + i + " of one cask", () -> x.swap(0, i, 0, 0));
            Due.noSuch("another " + i + " of one cask", () -> x.swap(0, 0, 0, i));
        }
        Due.noSuch("cask 2", () -> x.swap(2, 0, 1, 0));
        Due.noSuch("other 2", () -> x.swap(0, 0, 2, 0));
        Due.noSuch("stave 8 of 8", () -> x.swap(0, 8, 1, 8));
        Due.noSuch("another 10 of 10", () -> x.swap(0, 0, 1, 10));
        Due.noSuch("stave 10 of 10", () -> x.swap(1, 10, 0, 0));
        Due.noSuch("another 8 of 8", () -> x.swap(1, 8, 0, 8));
        Due.is("stave 9 of 10", true, () -> x.swap(1, 9, 0, 6));
    }

    private static void renewNone() {
        Due.sentence(23, "NONE, and nothing changes: there is none that can.");
        Yards.unchanged("no wood", () -> madeOfFirst(116), -1, x -> x.renew(0, 0));
        Yards.unchanged("one too little for a narrow one", () -> madeOfFirst(116, 13), -1, x -> x.renew(0, 0));
        Yards.unchanged("one too little for a wide one", () -> madeOfFirst(116, 14), -1, x -> x.renew(0, 7));
        Yards.unchanged("four parts that are too small", () -> {
            CaskYard x = madeOfFirst(116, 55);
            x.flaw(1, 13, 14);
            x.flaw(1, 27, 28);
            x.flaw(1, 41, 42);
            return x;
        }, -1, x -> x.renew(0, 0));
        Yards.unchanged("wood that a flaw took", () -> {
            CaskYard x = madeOfFirst(116, 14, 40);
            x.flaw(1, 0, 14);
            x.flaw(2, 12, 26);
            x.flaw(2, 26, 40);
            return x;
        }, -1, x -> x.renew(0, 0));
        Yards.unchanged("not ripe", () -> {
            CaskYard x = madeOfFirst(116);
            x.bolt(600);
            x.days(1094);
            return x;
        }, -1, x -> x.renew(0, 0));
        int[] forty = new int[40];
        Arrays.fill(forty, 13);
        forty[0] = 116;
        Yards.unchanged("forty bolts", () -> madeOfFirst(forty), -1, x -> x.renew(0, 0));
    }

    /** A CASK with a past out of the first of these BOLTS. */
    private static CaskYard madeOfFirst(int... widths) {
        CaskYard x = Yards.ripe(widths);
        x.make(0);
        x.tell(0, 0, 3);
        return x;
    }

    private static void countsWhenFull() {
        Due.sentence(26, "0 NOW, 1 FORMS, 2 BOLTS, 3 CASKS.");
        CaskYard x = new CaskYard();
        for (int i = 0; i < 9; i++) {
            x.form(10, 100, 60, 8);
        }
        for (int i = 0; i < 41; i++) {
            x.bolt(600);
        }
        x.days(100000);
        for (int i = 0; i < 31; i++) {
            x.make(0);
        }
        int[] due = {100000, 8, 40, 30};
        for (int what = 0; what < 4; what++) {
            int w = what;
            Due.is("what " + what, due[what], () -> x.count(w));
        }
    }

    private static void countAnotherWhat() {
        Due.sentence(26, "NoSuchElementException: another what.");
        CaskYard x = Yards.two();
        for (int what : Yards.FAR) {
            Due.noSuch("what " + what, () -> x.count(what));
        }
        Due.noSuch("what 4", () -> x.count(4));
        Due.is("what 0", 1095, () -> x.count(0));
        Due.is("what 1", 1, () -> x.count(1));
        Due.is("what 2", 2, () -> x.count(2));
        Due.is("what 3", 2, () -> x.count(3));
    }
}
