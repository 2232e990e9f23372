import java.util.Arrays;

/** The sentences on DAYS and BOLTS that name an edge, one by one: Terms 2, promises 8 to 12. */
public final class BoltEdgesTest {
    private static final int MIN = Integer.MIN_VALUE;
    private static final int MAX = Integer.MAX_VALUE;

    private BoltEdgesTest() {
    }

    public static void main(String[] args) {
        firstDay();
        boltNumbers();
        widths();
        dayOfSplitting();
        clearAtFirst();
        flawNotItsEnd();
        flawOutOfAllParts();
        flawWithin();
        noPartOfNoWidth();
        ripeOnTheDay();
        daysLater();
        daysBelowNought();
        daysAboveTheLast();
        fortyFirstBolt();
        wrongWidth();
        howManyParts();
        noSuchBolt();
        wrongFlaw();
        fifthPart();
        noSuchPart();
        Due.end("BoltEdgesTest");
    }

    private static void firstDay() {
        Due.sentence(8, "DAYS t from 0 on");
        CaskYard x = new CaskYard();
        Due.is("the first", 0, () -> x.count(0));
        Due.is("the first, no day later", 0, () -> x.days(0));
        Due.is("the second", 1, () -> x.days(1));
    }

    private static CaskYard fortyBolts() {
        CaskYard x = Yards.small();
        for (int i = 0; i < 40; i++) {
            x.bolt(100 + i);
        }
        return x;
    }

    private static void boltNumbers() {
        Due.sentence(9, "BOLTS 0 to 39");
        CaskYard x = new CaskYard();
        for (int i = 0; i < 40; i++) {
            int width = 100 + i;
            Due.is("bolt " + i, i, () -> x.bolt(width));
        }
        for (int i = 0; i < 40; i++) {
            Due.same("width of " + i, "0-" + (100 + i), Yards.parts(x, i));
        }
    }

    private static void widths() {
        Due.sentence(9, "a width of 1 to 600");
        for (int w : new int[] {MIN, -600, -1, 0, 601, 602, MAX}) {
            Due.is("width " + w, -1, () -> new CaskYard().bolt(w));
        }
        for (int w : new int[] {1, 2, 599, 600}) {
            Due.is("width " + w, 0, () -> new CaskYard().bolt(w));
        }
    }

    private static void dayOfSplitting() {
        Due.sentence(12, "the DAY on which it was split (of now)");
        CaskYard x = new CaskYard();
        x.bolt(1);
        x.days(1);
        x.bolt(1);
        x.days(1094);
        Due.is("split on day 0", true, () -> x.ripe(0));
        Due.is("split on day 1", false, () -> x.ripe(1));
        x.days(1);
        Due.is("split on day 1, a day later", true, () -> x.ripe(1));
    }

    private static void clearAtFirst() {
        Due.sentence(11, "CLEAR are its parts, from 0 to its width at first");
        for (int w : new int[] {1, 2, 599, 600}) {
            Due.same("width " + w, "0-" + w, Yards.parts(Yards.wood(w), 0));
        }
    }

    /** What FLAWS, from and to in turn, leave of a BOLT of 100, and how many parts the last of them answers. */
    private static void flawed(String due, int many, int... flaws) {
        CaskYard x = Yards.wood(100);
        int answer = 1;
        for (int i = 0; i < flaws.length; i += 2) {
            answer = x.flaw(0, flaws[i], flaws[i + 1]);
        }
        int last = answer;
        String what = Arrays.toString(flaws);
        Due.is("how many after " + what, many, () -> last);
        Due.same("parts after " + what, due, Yards.parts(x, 0));
    }

    private static void flawNotItsEnd() {
        Due.sentence(10, "a FLAW from a to b (not b) takes that out");
        flawed("0-10 20-100", 2, 10, 20);
        flawed("0-10 11-100", 2, 10, 11);
        flawed("1-100", 1, 0, 1);
        flawed("0-99", 1, 99, 100);
        flawed("0-1 99-100", 2, 1, 99);
    }

    private static void flawOutOfAllParts() {
        Due.sentence(10, "takes that out of all parts");
        flawed("0-5 65-100", 2, 10, 20, 30, 40, 50, 60, 5, 65);
        flawed("0-10 65-100", 2, 10, 20, 30, 40, 50, 60, 10, 65);
        flawed("0-10 35-40 60-100", 3, 10, 20, 40, 60, 15, 35);
        flawed("0-9 21-100", 2, 10, 20, 9, 21);
        flawed("0-10 20-100", 2, 10, 20, 12, 18);
        flawed("0-10 20-100", 2, 10, 20, 10, 20);
        flawed("0-10 30-100", 2, 10, 20, 20, 30);
        flawed("0-5 20-100", 2, 10, 20, 5, 10);
    }

    private static void flawWithin() {
        Due.sentence(10, "what is left of one on both sides are two parts, in order");
        flawed("0-1 2-100", 2, 1, 2);
        flawed("0-98 99-100", 2, 98, 99);
        flawed("0-3 4-50 51-100", 3, 50, 51, 3, 4);
        flawed("0-3 4-50 51-70 71-100", 4, 50, 51, 3, 4, 70, 71);
        flawed("0-30 31-50 51-70 71-100", 4, 50, 51, 70, 71, 30, 31);
    }

    private static void noPartOfNoWidth() {
        Due.sentence(10, "none of no width");
        flawed("", 0, 0, 100);
        flawed("", 0, 0, 600);
        flawed("", 0, 0, 50, 50, 100);
        flawed("50-100", 1, 0, 50);
        flawed("0-50", 1, 50, 100);
        flawed("0-50", 1, 50, 600);
        flawed("0-100", 1, 100, 600);
        flawed("0-100", 1, 599, 600);
        flawed("0-10 40-100", 2, 10, 20, 30, 40, 20, 30);
        flawed("", 0, 0, 100, 0, 100);
    }

    private static void ripeOnTheDay() {
        Due.sentence(12, "RIPE is a BOLT from the DAY on that is 1095 behind its own.");
        CaskYard x = Yards.wood(116);
        Due.is("on its own day", false, () -> x.ripe(0));
        x.days(1094);
        Due.is("1094 behind", false, () -> x.ripe(0));
        Due.is("1094 behind, no cask", -1, () -> x.make(0));
        x.days(1);
        Due.is("1095 behind", true, () -> x.ripe(0));
        x.days(1);
        Due.is("1096 behind", true, () -> x.ripe(0));
        x.days(98904 - 1096);
        x.bolt(1);
        x.days(1);
        x.bolt(1);
        x.days(1);
        x.bolt(1);
        x.days(1094);
        Due.is("on the last of all days, the first", true, () -> x.ripe(0));
        Due.is("on the last of all days, 1096 behind", true, () -> x.ripe(1));
        Due.is("on the last of all days, 1095 behind", true, () -> x.ripe(2));
        Due.is("on the last of all days, 1094 behind", false, () -> x.ripe(3));
    }

    private static void daysLater() {
        Due.sentence(8, "NOW is n DAYS later: which.");
        CaskYard x = new CaskYard();
        Due.is("0 later", 0, () -> x.days(0));
        Due.is("1 later", 1, () -> x.days(1));
        Due.is("99999 later", 100000, () -> x.days(99999));
        Due.is("0 later than the last", 100000, () -> x.days(0));
        Due.is("now", 100000, () -> x.count(0));
        Due.is("all at once", 100000, () -> new CaskYard().days(100000));
    }

    private static void daysBelowNought() {
        Due.sentence(8, "IllegalArgumentException: n is below 0");
        for (int n : new int[] {-1, -2, -1095, -100001, MIN}) {
            Yards.unchanged("n " + n, () -> Yards.ripe(116), "IAE", x -> x.days(n));
            Yards.unchanged("n " + n + " on day 0", () -> Yards.wood(116), "IAE", x -> x.days(n));
        }
    }

    private static void daysAboveTheLast() {
        Due.sentence(8, "NOW would be above 100000");
        for (int n : new int[] {98906, 100000, 100001, MAX - 1095, MAX - 1094, MAX}) {
            Yards.unchanged("n " + n, () -> Yards.ripe(116), "IAE", x -> x.days(n));
        }
        Due.is("just the last", 100000, () -> Yards.ripe(116).days(98905));
        Due.illegal("one behind the last from day 0", () -> new CaskYard().days(100001));
        CaskYard x = new CaskYard();
        x.days(100000);
        Due.illegal("1 behind the last", () -> x.days(1));
        Due.illegal("far behind the last", () -> x.days(MAX));
        Due.is("still the last", 100000, () -> x.count(0));
    }

    private static void fortyFirstBolt() {
        Due.sentence(9, "NONE: there are 40");
        Yards.unchanged("the 41st", BoltEdgesTest::fortyBolts, -1, x -> x.bolt(1));
        Yards.unchanged("the 41st of a wrong width", BoltEdgesTest::fortyBolts, -1, x -> x.bolt(0));
        CaskYard x = fortyBolts();
        x.flaw(39, 0, 600);
        Due.is("one without wood is still one", -1, () -> x.bolt(1));
    }

    private static void wrongWidth() {
        Due.sentence(9, "or width is not 1 to 600");
        for (int w : new int[] {MIN, -1, 0, 601, MAX}) {
            Yards.unchanged("width " + w, () -> Yards.wood(100), -1, x -> x.bolt(w));
        }
        CaskYard x = new CaskYard();
        x.bolt(601);
        Due.is("it takes no number", 0, () -> x.bolt(600));
    }

    private static void howManyParts() {
        Due.sentence(10, "how many CLEAR parts there are then");
        CaskYard x = Yards.wood(600);
        for (int i = 1; i < 4; i++) {
            int at = 100 * i;
            Due.is("a flaw at " + at, i + 1, () -> x.flaw(0, at, at + 1));
        }
        Due.is("nothing taken", 4, () -> x.flaw(0, 300, 301));
        Due.is("the first part", 3, () -> x.flaw(0, 0, 100));
        Due.is("the last part", 2, () -> x.flaw(0, 301, 600));
        Due.is("all parts", 0, () -> x.flaw(0, 0, 600));
        Due.is("nothing any more", 0, () -> x.flaw(0, 0, 600));
    }

    static void noBolt(CaskYard x, int bolt) {
        Due.noSuch("flaw of bolt " + bolt, () -> x.flaw(bolt, 0, 1));
        Due.noSuch("clear of bolt " + bolt, () -> x.clear(bolt, 0, 0));
        Due.noSuch("ripe of bolt " + bolt, () -> x.ripe(bolt));
        Due.noSuch("flaw of bolt " + bolt + ", not from 0 to 600", () -> x.flaw(bolt, 5, 5));
    }

    private static void noSuchBolt() {
        Due.sentence(10, "NoSuchElementException: no such BOLT (as everywhere).");
        CaskYard one = Yards.wood(100);
        noBolt(one, 1);
        noBolt(one, 39);
        CaskYard forty = fortyBolts();
        noBolt(forty, 40);
        for (int bolt : Yards.FAR) {
            noBolt(one, bolt);
            noBolt(forty, bolt);
        }
        Due.is("the last there is", 139, () -> forty.clear(39, 0, 1));
    }

    private static void wrongFlaw() {
        Due.sentence(10, "NONE, and nothing changes: not 0 <= from < to <= 600");
        int[][] wrong = {
            {-1, 5}, {-1, 0}, {-5, -1}, {5, 5}, {0, 0}, {6, 5}, {600, 600},
            {0, 601}, {599, 601}, {600, 601}, {601, 602},
            {MIN, MAX}, {MAX, MIN}, {MIN, 5}, {5, MAX}, {MAX, MAX}, {MIN, MIN},
        };
        for (int[] w : wrong) {
            Yards.unchanged(w[0] + " to " + w[1], () -> Yards.wood(600, 300), -1, x -> x.flaw(0, w[0], w[1]));
        }
        Due.is("0 to 600", 0, () -> Yards.wood(600).flaw(0, 0, 600));
        Due.is("0 to 1", 1, () -> Yards.wood(600).flaw(0, 0, 1));
        Due.is("599 to 600", 1, () -> Yards.wood(600).flaw(0, 599, 600));
    }

    private static void fifthPart() {
        Due.sentence(10, "or there would be more than 4 parts");
        for (int at : new int[] {1, 50, 150, 250, 302, 350, 398}) {
            Yards.unchanged("at " + at, () -> Yards.wood(400, 100, 200, 300), -1, x -> x.flaw(0, at, at + 1));
        }
        Due.is("a fourth", 4, () -> Yards.wood(400, 100, 200).flaw(0, 50, 51));
        Due.is("at the first one's beginning", 4, () -> Yards.wood(400, 100, 200, 300).flaw(0, 0, 1));
        Due.is("at the last one's end", 4, () -> Yards.wood(400, 100, 200, 300).flaw(0, 399, 400));
        Due.is("from one into the next", 4, () -> Yards.wood(400, 100, 200, 300).flaw(0, 50, 150));
        Due.is("over one", 3, () -> Yards.wood(400, 100, 200, 300).flaw(0, 50, 250));
        CaskYard x = Yards.wood(400, 100, 200, 300);
        x.flaw(0, 350, 360);
        Due.is("after a refused one", 3, () -> x.flaw(0, 0, 100));
        Due.is("there is room again", 4, () -> x.flaw(0, 350, 360));
    }

    private static void noSuchPart() {
        Due.sentence(11, "NoSuchElementException: there is none, another what.");
        CaskYard x = Yards.wood(400, 100, 200, 300);
        for (int i : Yards.FAR) {
            Due.noSuch("part " + i, () -> x.clear(0, i, 0));
            Due.noSuch("what " + i, () -> x.clear(0, 0, i));
        }
        Due.noSuch("part 4 of 4", () -> x.clear(0, 4, 1));
        Due.noSuch("what 2", () -> x.clear(0, 3, 2));
        Due.is("part 3 of 4 begins", 301, () -> x.clear(0, 3, 0));
        Due.is("part 3 of 4 ends", 400, () -> x.clear(0, 3, 1));
        x.flaw(0, 301, 400);
        Due.noSuch("part 3 of 3", () -> x.clear(0, 3, 0));
        x.flaw(0, 0, 600);
        Due.noSuch("part 0 of none", () -> x.clear(0, 0, 0));
        Due.noSuch("the end of part 0 of none", () -> x.clear(0, 0, 1));
    }
}
