/** The sentences on what CASKS held and weigh that name an edge, one by one: Terms 3, promises 19 to 21, 24, 25. */
public final class EntryEdgesTest {
    private static final int MIN = Integer.MIN_VALUE;
    private static final int MAX = Integer.MAX_VALUE;
    private static final int EMPTY = 16;

    private EntryEdgesTest() {
    }

    public static void main(String[] args) {
        notBehindNow();
        empty();
        toldNow();
        refusedNow();
        stavesOfNow();
        heldToldUpTo();
        heldOfDaysUpTo();
        heldOfTheLatestDay();
        heldToldLast();
        heldWithout();
        weightsFromTo();
        weightsAtFirst();
        tellMayNot();
        tellFull();
        tellWrongDay();
        tellNoSuchKind();
        lacksToTheLastToo();
        lacksNothingOrEmpty();
        lacksWrongDays();
        lacksAnotherWhat();
        weightNoSuchKind();
        weightWrong();
        weighsCutDown();
        weighsNone();
        weighsNoSuchLevel();
        Due.end("EntryEdgesTest");
    }

    private static void notBehindNow() {
        Due.sentence(19, "on a DAY (not behind NOW)");
        CaskYard x = Yards.two();
        Due.is("now", 1, () -> x.tell(0, 1095, 3));
        Due.is("a day behind now", -1, () -> x.tell(0, 1096, 3));
        Due.is("the day before", 2, () -> x.tell(0, 1094, 3));
        x.days(1);
        Due.is("a day later", 3, () -> x.tell(0, 1096, 3));
        Due.is("day 0", 4, () -> x.tell(0, 0, 3));
    }

    private static void empty() {
        Due.sentence(19, "or was EMPTY (16)");
        CaskYard x = Yards.two();
        for (int kind = 0; kind < 16; kind++) {
            x.bars(kind, kind, true);
        }
        Due.is("told", 1, () -> x.tell(0, 1095, EMPTY));
        Due.is("held", EMPTY, () -> x.held(0, 1095, 1095));
        Due.is("told again", 2, () -> x.tell(0, 1095, EMPTY));
        Due.same("no stave has met it", "0 0 0 0 0 0 0 0", Yards.pastsOf(x, 0));
        Due.is("the kind below it", 3, () -> x.tell(0, 1095, 15));
        Due.is("the kind below it is met", 32768, () -> x.stave(0, 0, 1));
        Due.is("it is let in whatever bars", 4, () -> x.tell(0, 1095, EMPTY));
    }

    private static void toldNow() {
        Due.sentence(19, "told NOW");
        CaskYard x = Yards.two();
        x.tell(0, 0, 3);
        Due.is("not known on its own day", -1, () -> x.held(0, 0, 0));
        Due.is("not known before it was told", -1, () -> x.held(0, 1095, 1094));
        Due.is("known on the day it was told", 3, () -> x.held(0, 0, 1095));
    }

    private static void refusedNow() {
        Due.sentence(19, "An entry of a KIND is refused, if it MAY not come in NOW");
        CaskYard x = Yards.two();
        x.bars(3, 5, true);
        x.tell(0, 1095, 3);
        Due.is("on a day before the other came in", -1, () -> x.tell(0, 0, 5));
        Due.is("now", -1, () -> x.tell(0, 1095, 5));
        x.bars(3, 5, false);
        Due.is("when nothing bars it any more", 2, () -> x.tell(0, 0, 5));
        x.bars(5, 5, true);
        Due.is("when it bars itself since", -1, () -> x.tell(0, 0, 5));
        Due.is("the first of a kind that bars itself", 1, () -> x.tell(1, 0, 5));
        Due.is("the second of it", -1, () -> x.tell(1, 0, 5));
    }

    private static void stavesOfNow() {
        Due.sentence(19, "else each STAVE of NOW has that KIND in its PAST");
        CaskYard x = Yards.two();
        x.tell(0, 0, 1);
        x.swap(0, 0, 1, 0);
        x.tell(0, 0, 2);
        x.tell(1, 0, 3);
        Due.same("one came, one went", "4 6 6 6 6 6 6 6", Yards.pastsOf(x, 0));
        Due.same("the other way", "10 8 8 8 8 8 8 8", Yards.pastsOf(x, 1));
        x.renew(0, 7);
        Due.is("one cut since", 0, () -> x.stave(0, 7, 1));
        x.tell(0, 0, 15);
        Due.is("it meets what comes then", 32768, () -> x.stave(0, 7, 1));
        CaskYard y = Yards.ripe(600, 600, 600, 600);
        y.form(200, 2000, 2000, 40);
        y.make(1);
        y.tell(0, 0, 4);
        Due.is("the first of forty", 16, () -> y.stave(0, 0, 1));
        Due.is("the last of forty", 16, () -> y.stave(0, 39, 1));
    }

    /** Told on day 1095 that it held 3 on day 1000, on day 1100 that it held 4 on day 900 and 5 on day 1100. */
    private static CaskYard row() {
        CaskYard x = Yards.two();
        x.tell(0, 1000, 3);
        x.days(5);
        x.tell(0, 900, 4);
        x.tell(0, 1100, 5);
        return x;
    }

    private static void heldToldUpTo() {
        Due.sentence(20, "of the entries told on DAYS up to k");
        CaskYard x = row();
        Due.is("the day before the first was told", -1, () -> x.held(0, 2000, 1094));
        Due.is("the day on which it was told", 3, () -> x.held(0, 2000, 1095));
        Due.is("the day before the others were told", 3, () -> x.held(0, 2000, 1099));
        Due.is("the day on which they were told", 5, () -> x.held(0, 2000, 1100));
        Due.is("day 900 as known the day before", -1, () -> x.held(0, 900, 1099));
        Due.is("day 900 as known then", 4, () -> x.held(0, 900, 1100));
        Due.is("as known on the last of days", 5, () -> x.held(0, 2000, MAX));
        Due.is("as known on the least of numbers", -1, () -> x.held(0, 2000, MIN));
    }

    private static void heldOfDaysUpTo() {
        Due.sentence(20, "of DAYS up to d");
        CaskYard x = row();
        Due.is("the day before the first", -1, () -> x.held(0, 899, 1100));
        Due.is("its day", 4, () -> x.held(0, 900, 1100));
        Due.is("the day before the next", 4, () -> x.held(0, 999, 1100));
        Due.is("the next one's day", 3, () -> x.held(0, 1000, 1100));
        Due.is("the day before the last", 3, () -> x.held(0, 1099, 1100));
        Due.is("the last one's day", 5, () -> x.held(0, 1100, 1100));
        Due.is("behind now", 5, () -> x.held(0, 1101, 1100));
        Due.is("the greatest of numbers", 5, () -> x.held(0, MAX, 1100));
        Due.is("below 0", -1, () -> x.held(0, -1, 1100));
        Due.is("the least of numbers", -1, () -> x.held(0, MIN, 1100));
        x.tell(1, 0, 6);
        Due.is("day 0", 6, () -> x.held(1, 0, 1100));
        Due.is("below day 0", -1, () -> x.held(1, -1, 1100));
    }

    private static void heldOfTheLatestDay() {
        Due.sentence(20, "that of the latest DAY");
        CaskYard x = Yards.two();
        x.tell(0, 10, 3);
        x.tell(0, 9, 4);
        Due.is("not the one told later", 3, () -> x.held(0, 10, 1095));
        x.tell(0, 11, 5);
        Due.is("a later day", 5, () -> x.held(0, 11, 1095));
        x.tell(0, 0, 6);
        Due.is("day 0 told last", 5, () -> x.held(0, 11, 1095));
    }

    private static void heldToldLast() {
        Due.sentence(20, "of like ones the one told last");
        CaskYard x = Yards.two();
        x.tell(0, 10, 3);
        x.tell(0, 10, 4);
        Due.is("on one day", 4, () -> x.held(0, 10, 1095));
        x.days(1);
        x.tell(0, 10, EMPTY);
        x.tell(0, 9, 5);
        Due.is("on the next day", EMPTY, () -> x.held(0, 10, 1096));
        Due.is("as known before", 4, () -> x.held(0, 10, 1095));
        x.tell(0, 10, 3);
        Due.is("the first one again", 3, () -> x.held(0, 10, 1096));
    }

    private static void heldWithout() {
        Due.sentence(20, "NONE without.");
        CaskYard x = Yards.two();
        Due.is("no entry", -1, () -> x.held(0, 1095, 1095));
        x.tell(1, 0, 3);
        Due.is("another cask's entry", -1, () -> x.held(0, 1095, 1095));
        x.tell(0, 1095, 3);
        Due.is("an entry of a later day", -1, () -> x.held(0, 1094, 1095));
        Due.is("an entry told later", -1, () -> x.held(0, 1095, 1094));
        Due.is("neither", -1, () -> x.held(0, 0, 0));
        Due.is("both", 3, () -> x.held(0, 1095, 1095));
    }

    private static void weightsFromTo() {
        Due.sentence(24, "a KIND has a weight for 1000 of what is held (1 to 5000");
        CaskYard x = new CaskYard();
        x.weight(0, 1);
        Due.is("1", 1, () -> x.weight(0, 5000));
        Due.is("5000", 5000, () -> x.weight(0, 4999));
        Due.is("4999", 4999, () -> x.weight(0, 2));
        Due.is("2", 2, () -> x.weight(0, 1));
    }

    private static void weightsAtFirst() {
        Due.sentence(24, "at first 1000");
        CaskYard x = new CaskYard();
        for (int kind = 0; kind < 16; kind++) {
            int k = kind;
            Due.is("kind " + kind, 1000, () -> x.weight(k, 1 + k));
        }
        for (int kind = 0; kind < 16; kind++) {
            int k = kind;
            Due.is("then, kind " + kind, 1 + kind, () -> x.weight(k, 1000));
        }
        Due.is("an object has its own", 1000, () -> new CaskYard().weight(15, 1));
    }

    private static CaskYard barred() {
        CaskYard x = Yards.two();
        x.bars(3, 5, true);
        x.tell(0, 1095, 3);
        return x;
    }

    private static void tellMayNot() {
        Due.sentence(19, "NONE, and nothing changes: the KIND MAY not come in");
        for (int day : new int[] {0, 1, 1094, 1095}) {
            Yards.unchanged("on day " + day, EntryEdgesTest::barred, -1, x -> x.tell(0, day, 5));
        }
        Due.is("into the other cask", 1, () -> barred().tell(1, 1095, 5));
        Due.is("another kind", 2, () -> barred().tell(0, 1095, 4));
    }

    private static CaskYard fullRow(int entries) {
        CaskYard x = Yards.two();
        for (int i = 0; i < entries; i++) {
            x.tell(0, i, 3);
        }
        return x;
    }

    private static void tellFull() {
        Due.sentence(19, "the CASK has 40 entries");
        Due.is("the 40th", 40, () -> fullRow(39).tell(0, 1095, 5));
        Yards.unchanged("the 41st", () -> fullRow(40), -1, x -> x.tell(0, 1095, 5));
        Yards.unchanged("the 41st, empty", () -> fullRow(40), -1, x -> x.tell(0, 1095, EMPTY));
        Yards.unchanged("the 41st of no such kind", () -> fullRow(40), "IAE", x -> x.tell(0, 1095, 17));
        Due.is("the other cask's first", 1, () -> fullRow(40).tell(1, 1095, 5));
        Due.is("the 40th is held", 3, () -> fullRow(40).held(0, 39, 1095));
    }

    private static void tellWrongDay() {
        Due.sentence(19, "or the DAY is below 0 or behind NOW");
        for (int day : new int[] {MIN, -1095, -1, 1096, 1097, 100000, MAX}) {
            Yards.unchanged("day " + day, Yards::two, -1, x -> x.tell(0, day, 3));
            Yards.unchanged("day " + day + ", empty", Yards::two, -1, x -> x.tell(0, day, EMPTY));
        }
        Due.is("day 0", 1, () -> Yards.two().tell(0, 0, 3));
        Due.is("now", 1, () -> Yards.two().tell(0, 1095, 3));
    }

    private static void tellNoSuchKind() {
        Due.sentence(19, "IllegalArgumentException: no such KIND (16 is EMPTY).");
        for (int kind : new int[] {MIN, -16, -1, 17, 18, 32, MAX}) {
            Yards.unchanged("kind " + kind, Yards::two, "IAE", x -> x.tell(0, 0, kind));
            Yards.unchanged("kind " + kind + " on no such day", Yards::two, "IAE", x -> x.tell(0, -1, kind));
        }
        Due.is("kind 0", 1, () -> Yards.two().tell(0, 0, 0));
        Due.is("kind 15", 1, () -> Yards.two().tell(0, 0, 15));
        Due.is("16", 1, () -> Yards.two().tell(0, 0, 16));
    }

    private static void lacksToTheLastToo() {
        Due.sentence(21, "How many DAYS from one to another one (that, too), as known NOW");
        CaskYard x = Yards.two();
        Due.is("one day", 1, () -> x.lacks(0, 7, 7, 0));
        Due.is("two days", 2, () -> x.lacks(0, 7, 8, 0));
        Due.is("the first of all days", 1, () -> x.lacks(0, 0, 0, 0));
        Due.is("the last of all days", 1, () -> x.lacks(0, 100000, 100000, 0));
        Due.is("all days", 100001, () -> x.lacks(0, 0, 100000, 0));
        x.tell(0, 10, EMPTY);
        x.tell(0, 20, 3);
        Due.is("up to the day before", 0, () -> x.lacks(0, 0, 9, 1));
        Due.is("up to its day", 1, () -> x.lacks(0, 0, 10, 1));
        Due.is("its days", 10, () -> x.lacks(0, 10, 19, 1));
        Due.is("its days and the next one's", 10, () -> x.lacks(0, 10, 20, 1));
        Due.is("its last day", 1, () -> x.lacks(0, 19, 20, 1));
        Due.is("the next one's days", 0, () -> x.lacks(0, 20, 100000, 1));
        x.tell(0, 15, 4);
        Due.is("as known now", 5, () -> x.lacks(0, 0, 100000, 1));
        CaskYard y = Yards.two();
        y.tell(0, 1095, EMPTY);
        Due.is("behind now, too", 98906, () -> y.lacks(0, 0, 100000, 1));
    }

    private static void lacksNothingOrEmpty() {
        Due.sentence(21, "nothing is known of (HELD NONE), or it is EMPTY (what 0, 1)");
        CaskYard x = Yards.two();
        x.tell(0, 10, EMPTY);
        x.tell(0, 20, 0);
        x.tell(0, 30, 15);
        x.tell(0, 40, EMPTY);
        Due.is("unknown", 10, () -> x.lacks(0, 0, 49, 0));
        Due.is("empty", 20, () -> x.lacks(0, 0, 49, 1));
        x.tell(0, 0, 0);
        Due.is("nothing unknown", 0, () -> x.lacks(0, 0, 100000, 0));
        CaskYard y = Yards.two();
        for (int i = 0; i < 40; i++) {
            y.tell(0, 1000 - 20 * i, i % 2 == 0 ? EMPTY : 3);
        }
        // Forty entries, the last told on day 220: 19 stretches of 20 days, and from day 1000 on all.
        Due.is("a full row, unknown", 220, () -> y.lacks(0, 0, 100000, 0));
        Due.is("a full row, empty", 19 * 20 + 99001, () -> y.lacks(0, 0, 100000, 1));
    }

    private static void lacksWrongDays() {
        Due.sentence(21, "IllegalArgumentException: not 0 <= from <= to <= 100000");
        CaskYard x = Yards.two();
        int[][] wrong = {
            {-1, 5}, {-1, -1}, {5, 4}, {100000, 99999}, {0, 100001}, {100000, 100001}, {100001, 100001}, {MIN, MAX},
            {MAX, MIN}, {0, MAX}, {MIN, 0}, {MAX, MAX}, {MIN, MIN}, {0, -1},
        };
        for (int[] w : wrong) {
            Due.illegal(w[0] + " to " + w[1], () -> x.lacks(0, w[0], w[1], 0));
            Due.illegal(w[0] + " to " + w[1] + ", empty", () -> x.lacks(0, w[0], w[1], 1));
        }
        Due.is("0 to 0", 1, () -> x.lacks(0, 0, 0, 0));
        Due.is("100000 to 100000", 1, () -> x.lacks(0, 100000, 100000, 0));
    }

    private static void lacksAnotherWhat() {
        Due.sentence(21, "another what.");
        CaskYard x = Yards.two();
        for (int what : Yards.FAR) {
            Due.illegal("what " + what, () -> x.lacks(0, 0, 5, what));
        }
        Due.illegal("what 2", () -> x.lacks(0, 0, 5, 2));
        Due.is("what 1", 0, () -> x.lacks(0, 0, 5, 1));
        Due.is("what 0", 6, () -> x.lacks(0, 0, 5, 0));
    }

    private static void weightNoSuchKind() {
        Due.sentence(24, "IllegalArgumentException: no such KIND");
        for (int kind : new int[] {MIN, -1, 16, 17, MAX}) {
            Yards.unchanged("kind " + kind, Yards::two, "IAE", x -> x.weight(kind, 7));
        }
        Due.is("kind 0", 1000, () -> new CaskYard().weight(0, 7));
        Due.is("kind 15", 1000, () -> new CaskYard().weight(15, 7));
    }

    private static void weightWrong() {
        Due.sentence(24, "v is not 1 to 5000");
        for (int v : new int[] {MIN, -1000, -1, 0, 5001, 5002, MAX}) {
            Yards.unchanged("v " + v, Yards::two, "IAE", x -> x.weight(3, v));
        }
        Due.is("v 1", 1000, () -> new CaskYard().weight(3, 1));
        Due.is("v 5000", 1000, () -> new CaskYard().weight(3, 5000));
    }

    private static void weighsCutDown() {
        Due.sentence(25, "what it HOLDS by the weight, divided by 1000, cut down");
        CaskYard x = Yards.two();
        x.tell(0, 0, 3);
        Due.is("nothing in it", 0, () -> x.weighs(0, 0));
        Due.is("6120 by 1000", 6120, () -> x.weighs(0, 10));
        x.weight(3, 1);
        Due.is("286 by 1", 0, () -> x.weighs(0, 1));
        Due.is("734 by 1", 0, () -> x.weighs(0, 2));
        Due.is("1322 by 1", 1, () -> x.weighs(0, 3));
        Due.is("6120 by 1", 6, () -> x.weighs(0, 10));
        x.weight(3, 5000);
        Due.is("6120 by 5000", 30600, () -> x.weighs(0, 10));
        x.weight(3, 999);
        Due.is("286 by 999", 285, () -> x.weighs(0, 1));
        CaskYard y = Yards.ripe(600, 600, 600, 600);
        y.form(200, 2000, 2000, 40);
        y.make(1);
        y.tell(0, 0, 15);
        y.weight(15, 5000);
        Due.is("63661971 by 5000, more than an int holds", 318309855L, () -> y.weighs(0, 200));
        y.weight(15, 4999);
        Due.is("63661971 by 4999", 318246193L, () -> y.weighs(0, 200));
    }

    private static void weighsNone() {
        Due.sentence(25, "NONE: it held none.");
        CaskYard x = Yards.two();
        Due.is("nothing told", -1, () -> x.weighs(0, 10));
        x.tell(0, 1094, EMPTY);
        Due.is("empty", -1, () -> x.weighs(0, 10));
        Due.is("empty, level 0", -1, () -> x.weighs(0, 0));
        x.tell(0, 1093, 3);
        Due.is("empty since", -1, () -> x.weighs(0, 10));
        x.tell(0, 1094, 3);
        Due.is("filled", 6120, () -> x.weighs(0, 10));
        x.days(98905);
        Due.is("filled on the last of days", 6120, () -> x.weighs(0, 10));
        x.tell(0, 100000, EMPTY);
        Due.is("empty on the last of days", -1, () -> x.weighs(0, 10));
        Due.is("another cask", -1, () -> x.weighs(1, 10));
        x.tell(1, 0, 0);
        Due.is("kind 0 is one", 6120, () -> x.weighs(1, 10));
    }

    private static void weighsNoSuchLevel() {
        Due.sentence(25, "IllegalArgumentException: no such level.");
        CaskYard x = Yards.ripe(600, 600, 600, 600, 600);
        x.form(200, 2000, 2000, 40);
        x.make(0);
        x.make(1);
        x.tell(0, 0, 3);
        x.tell(1, 0, 3);
        for (int level : Yards.FAR) {
            Due.illegal("small, " + level, () -> x.weighs(0, level));
            Due.illegal("large, " + level, () -> x.weighs(1, level));
        }
        Due.illegal("11 of 10", () -> x.weighs(0, 11));
        Due.illegal("201 of 200", () -> x.weighs(1, 201));
        Due.is("10 of 10", 6120, () -> x.weighs(0, 10));
        Due.is("11 of 200", 3501408L, () -> x.weighs(1, 11));
        Due.is("200 of 200", 63661971L, () -> x.weighs(1, 200));
        Due.illegal("of one that holds nothing", () -> Yards.two().weighs(0, 11));
    }
}
