/** Promises 8 to 14. What a CASK of the small FORM needs is told in Yards. */
public final class BoltsTest {
    private BoltsTest() {
    }

    public static void main(String[] args) {
        promise8();
        promise9();
        promise10();
        promise11();
        promise12();
        promise13();
        promise13Looks();
        promise14();
        promise14Cut();
        promise14Parts();
        promise14Most();
        promise14AllBolts();
        Due.end("BoltsTest");
    }

    private static void promise8() {
        CaskYard x = new CaskYard();
        Due.is("8 none later", 0, () -> x.days(0));
        Due.is("8 seven", 7, () -> x.days(7));
        Due.illegal("8 back", () -> x.days(-1));
        Due.illegal("8 too far", () -> x.days(99994));
        Due.illegal("8 far too far", () -> x.days(Integer.MAX_VALUE));
        Due.is("8 nothing changed", 7, () -> x.count(0));
        Due.is("8 to the last", 100000, () -> x.days(99993));
        Due.is("8 on the last", 100000, () -> x.days(0));
        Due.illegal("8 behind the last", () -> x.days(1));
    }

    private static void promise9() {
        CaskYard x = new CaskYard();
        for (int w : new int[] {0, -1, 601, Integer.MIN_VALUE, Integer.MAX_VALUE}) {
            Due.is("9 width " + w, -1, () -> x.bolt(w));
        }
        for (int i = 0; i < 40; i++) {
            int width = i == 0 ? 1 : i == 1 ? 600 : 10 + i;
            Due.is("9 bolt " + i, i, () -> x.bolt(width));
        }
        Due.is("9 the 41st", -1, () -> x.bolt(10));
        Due.is("9 there are 40", 40, () -> x.count(2));
        Due.same("9 the least", "0-1", Yards.parts(x, 0));
        Due.same("9 the widest", "0-600", Yards.parts(x, 1));
        Due.same("9 the last", "0-49", Yards.parts(x, 39));
    }

    private static void promise10() {
        CaskYard x = new CaskYard();
        x.bolt(100);
        Due.is("10 within", 2, () -> x.flaw(0, 10, 20));
        Due.is("10 a third", 3, () -> x.flaw(0, 30, 40));
        Due.is("10 a fourth", 4, () -> x.flaw(0, 50, 60));
        Due.is("10 a fifth", -1, () -> x.flaw(0, 70, 80));
        Due.is("10 a fifth in the first", -1, () -> x.flaw(0, 3, 4));
        Due.same("10 nothing changed", "0-10 20-30 40-50 60-100", Yards.parts(x, 0));
        Due.is("10 in a flaw", 4, () -> x.flaw(0, 12, 18));
        Due.is("10 at a beginning", 4, () -> x.flaw(0, 15, 22));
        Due.is("10 at an end", 4, () -> x.flaw(0, 95, 600));
        Due.same("10 clipped", "0-10 22-30 40-50 60-95", Yards.parts(x, 0));
        Due.is("10 a whole part", 3, () -> x.flaw(0, 40, 50));
        Due.is("10 over several", 2, () -> x.flaw(0, 5, 70));
        Due.same("10 what is left", "0-5 70-95", Yards.parts(x, 0));
        int[][] wrong = {{-1, 5}, {5, 5}, {6, 5}, {0, 601}, {600, 600}, {Integer.MIN_VALUE, Integer.MAX_VALUE}};
        for (int[] w : wrong) {
            Due.is("10 wrong " + w[0] + " " + w[1], -1, () -> x.flaw(0, w[0], w[1]));
        }
        Due.is("10 behind the wood", 2, () -> x.flaw(0, 599, 600));
        Due.is("10 all", 0, () -> x.flaw(0, 0, 600));
        Due.is("10 of nothing", 0, () -> x.flaw(0, 0, 1));
        Due.same("10 nothing left", "", Yards.parts(x, 0));
        Due.noSuch("10 bolt 1", () -> x.flaw(1, 0, 1));
        Due.noSuch("10 bolt -1", () -> x.flaw(-1, 5, 5));
        Due.noSuch("10 bolt 40", () -> x.flaw(40, 0, 1));
    }

    private static void promise11() {
        CaskYard x = new CaskYard();
        x.bolt(100);
        Due.is("11 begins", 0, () -> x.clear(0, 0, 0));
        Due.is("11 ends", 100, () -> x.clear(0, 0, 1));
        x.flaw(0, 40, 41);
        Due.is("11 the second begins", 41, () -> x.clear(0, 1, 0));
        Due.is("11 the first ends", 40, () -> x.clear(0, 0, 1));
        Due.noSuch("11 part 2", () -> x.clear(0, 2, 0));
        Due.noSuch("11 part -1", () -> x.clear(0, -1, 0));
        Due.noSuch("11 part 4", () -> x.clear(0, 4, 0));
        Due.noSuch("11 what 2", () -> x.clear(0, 0, 2));
        Due.noSuch("11 what -1", () -> x.clear(0, 0, -1));
        Due.noSuch("11 bolt", () -> x.clear(1, 0, 0));
    }

    private static void promise12() {
        CaskYard x = new CaskYard();
        x.bolt(100);
        x.days(5);
        x.bolt(100);
        Due.is("12 new", false, () -> x.ripe(1));
        x.days(1089);
        Due.is("12 a day before", false, () -> x.ripe(0));
        x.days(1);
        Due.is("12 on the day", true, () -> x.ripe(0));
        Due.is("12 the younger", false, () -> x.ripe(1));
        x.days(5);
        Due.is("12 the younger on its day", true, () -> x.ripe(1));
        Due.is("12 the elder stays", true, () -> x.ripe(0));
        Due.noSuch("12 bolt 2", () -> x.ripe(2));
        Due.noSuch("12 bolt -1", () -> x.ripe(-1));
    }

    private static void promise13() {
        Due.is("13 no bolts", -1, () -> Yards.ripe().fewest(0));
        Due.is("13 just one", 1, () -> Yards.ripe(116).fewest(0));
        Due.is("13 one too little", -1, () -> Yards.ripe(115).fewest(0));
        Due.is("13 two to the last", 2, () -> Yards.ripe(28, 88).fewest(0));
        Due.is("13 enough wood, no cut", -1, () -> Yards.ripe(27, 89).fewest(0));
        Due.is("13 one for two", 1, () -> Yards.ripe(28, 88, 116).fewest(0));
        Due.is("13 eight", 8, () -> Yards.ripe(14, 15, 14, 15, 14, 15, 14, 15).fewest(0));
        Due.is("13 eight, a wide one short", -1, () -> Yards.ripe(14, 15, 14, 15, 14, 15, 14, 14).fewest(0));
        Due.noSuch("13 form 1", () -> Yards.ripe(116).fewest(1));
        Due.noSuch("13 form -1", () -> Yards.ripe(116).fewest(-1));
        CaskYard x = Yards.ripe(116);
        x.form(10, 160, 60, 8);
        Due.is("13 all alike, too little", -1, () -> x.fewest(1));
        CaskYard y = Yards.ripe(176);
        y.form(10, 160, 60, 8);
        Due.is("13 all alike", 1, () -> y.fewest(1));
        Due.is("13 nothing is cut", "0-176", () -> Yards.parts(y, 0));
        y.flaw(0, 21, 22);
        Due.is("13 a flaw in the first piece", -1, () -> y.fewest(1));
        CaskYard z = Yards.ripe(11 * 52, 11 * 52, 11 * 52, 7 * 52 - 1);
        z.form(200, 2000, 2000, 40);
        Due.is("13 the largest, too little", -1, () -> z.fewest(1));
        CaskYard w = Yards.ripe(11 * 52, 11 * 52, 7 * 52, 11 * 52);
        w.form(200, 2000, 2000, 40);
        Due.is("13 the largest", 4, () -> w.fewest(1));
    }

    private static void promise13Looks() {
        CaskYard x = Yards.ripe(1, 1, 1, 1, 1, 1, 1, 1, 200);
        Due.is("13 only eight are looked at", -1, () -> x.fewest(0));
        Due.is("13 in make, too", -1, () -> x.make(0));
        CaskYard y = Yards.ripe(1, 1, 1, 1, 1, 1, 1, 200);
        Due.is("13 the eighth is", 1, () -> y.fewest(0));
        CaskYard z = Yards.ripe(116);
        for (int i = 0; i < 8; i++) {
            z.bolt(1);
        }
        z.bolt(116);
        z.make(0);
        Due.is("13 unripe ones give nothing", -1, () -> z.fewest(0));
        CaskYard w = new CaskYard();
        w.form(10, 100, 60, 8);
        for (int i = 0; i < 9; i++) {
            w.bolt(i == 0 ? 1 : 14);
        }
        w.flaw(0, 0, 1);
        w.days(1095);
        w.bolt(116);
        Due.is("13 one with no wood is looked at", -1, () -> w.fewest(0));
    }

    private static void promise14() {
        CaskYard x = Yards.ripe(60, 60, 60);
        Due.noSuch("14 form 1", () -> x.make(1));
        Due.noSuch("14 form -1", () -> x.make(-1));
        Due.is("14 made", 0, () -> x.make(0));
        Due.is("14 there is one", 1, () -> x.count(3));
        Due.same("14 of no width is no part", "", Yards.parts(x, 0));
        Due.same("14 the first set", "56-60", Yards.parts(x, 1));
        Due.same("14 not the others", "0-60", Yards.parts(x, 2));
        Due.same("14 the staves", "1 0 1 0 1 0 1 0", Yards.boltsOf(x, 0));
        Due.is("14 no set", -1, () -> x.make(0));
        Due.same("14 nothing changes", "56-60 0-60", Yards.parts(x, 1) + " " + Yards.parts(x, 2));
        Due.is("14 still one", 1, () -> x.count(3));
        CaskYard y = Yards.ripe(28, 88, 116);
        y.make(0);
        Due.same("14 the fewest", "2 2 2 2 2 2 2 2", Yards.boltsOf(y, 0));
        CaskYard z = Yards.ripe(176);
        z.form(10, 160, 60, 8);
        Due.is("14 all alike", 0, () -> z.make(1));
        Due.same("14 all alike, staves", "0 0 0 0 0 0 0 0", Yards.boltsOf(z, 0));
        Due.is("14 its form", 1, () -> z.formOf(0));
        CaskYard w = Yards.ripe(200);
        w.bolt(300);
        w.days(1094);
        w.make(0);
        Due.is("14 unripe", -1, () -> w.make(0));
        w.days(1);
        Due.is("14 ripe", 1, () -> w.make(0));
    }

    private static void promise14Cut() {
        CaskYard x = Yards.ripe(50, 100, 50);
        x.make(0);
        Due.same("14 wide ones first", "1 0 1 0 1 0 1 1", Yards.boltsOf(x, 0));
        Due.same("14 wide ones first, parts", "45-50 | 71-100 | 0-50", Yards.allParts(x));
        CaskYard y = Yards.ripe(28, 88);
        y.make(0);
        Due.same("14 no wide one, or the rest would not fit", "0 1 0 1 1 1 1 1", Yards.boltsOf(y, 0));
        Due.same("14 no part is left", "", Yards.parts(y, 0) + Yards.parts(y, 1));
        CaskYard z = Yards.ripe(100, 60);
        z.make(0);
        Due.same("14 narrow ones behind the wide ones", "0 0 0 0 1 0 1 0", Yards.boltsOf(z, 0));
        Due.same("14 where they end", "88-100 28-60", Yards.parts(z, 0) + " " + Yards.parts(z, 1));
        CaskYard w = Yards.ripe(600, 58);
        w.make(0);
        Due.same("14 no more than wanted", "116-600 0-58", Yards.parts(w, 0) + " " + Yards.parts(w, 1));
    }

    private static void promise14Parts() {
        CaskYard x = Yards.ripe(150);
        x.flaw(0, 43, 50);
        x.make(0);
        Due.same("14 part by part", "30-43 136-150", Yards.parts(x, 0));
        CaskYard y = Yards.ripe(200);
        y.flaw(0, 0, 3);
        y.flaw(0, 18, 20);
        y.flaw(0, 30, 31);
        y.make(0);
        Due.same("14 a part used up, one too small", "20-30 132-200", Yards.parts(y, 0));
        CaskYard z = Yards.ripe(60, 200);
        z.flaw(0, 29, 31);
        z.flaw(1, 90, 110);
        z.make(0);
        Due.same("14 of one bolt", "0-29 31-60", Yards.parts(z, 0));
        Due.same("14 its two parts", "88-90 138-200", Yards.parts(z, 1));
    }

    private static void promise14Most() {
        CaskYard x = Yards.ripe(600, 600, 600, 600, 600, 600, 600);
        for (int i = 0; i < 30; i++) {
            Due.is("14 cask", i, () -> x.make(0));
        }
        Due.is("14 the 31st", -1, () -> x.make(0));
        Due.is("14 though a set gives it", 1, () -> x.fewest(0));
        Due.same("14 nothing is cut for it", "0-600", Yards.parts(x, 6));
        Due.is("14 there are 30", 30, () -> x.count(3));
        Due.noSuch("14 no form comes first", () -> x.make(1));
    }

    private static void promise14AllBolts() {
        CaskYard x = new CaskYard();
        x.form(10, 100, 60, 8);
        for (int b = 0; b < 40; b++) {
            x.bolt(b == 3 ? 116 : b == 39 ? 14 : 1);
        }
        x.days(1095);
        Due.is("14 forty bolts", 0, () -> x.make(0));
        Due.is("14 forty bolts, no set", -1, () -> x.make(0));
        Due.is("23 the fortieth bolt", 39, () -> x.renew(0, 0));
        Due.is("23 none of forty", -1, () -> x.renew(0, 0));
    }
}
