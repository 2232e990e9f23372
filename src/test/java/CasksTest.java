/** Promises 15 to 26. */
public final class CasksTest {
    private CasksTest() {
    }

    public static void main(String[] args) {
        promise15();
        promise16();
        promise17();
        promise18();
        promise19();
        promise20();
        promise21();
        promise22();
        promise23();
        promise24();
        promise25();
        promise26();
        Due.end("CasksTest");
    }

    private static void promise15() {
        CaskYard x = Yards.ripe(100, 60);
        x.make(0);
        Due.is("15 bolt", 1, () -> x.stave(0, 4, 0));
        Due.is("15 no past", 0, () -> x.stave(0, 4, 1));
        Due.is("15 narrow", 12, () -> x.stave(0, 6, 2));
        Due.is("15 wide", 13, () -> x.stave(0, 7, 2));
        x.tell(0, 0, 0);
        x.tell(0, 0, 15);
        Due.is("15 past", 32769, () -> x.stave(0, 7, 1));
        Due.noSuch("15 stave 8", () -> x.stave(0, 8, 0));
        Due.noSuch("15 stave -1", () -> x.stave(0, -1, 0));
        Due.noSuch("15 what 3", () -> x.stave(0, 0, 3));
        Due.noSuch("15 what -1", () -> x.stave(0, 0, -1));
        Due.noSuch("15 cask 1", () -> x.stave(1, 0, 0));
        Due.noSuch("15 cask -1", () -> x.stave(-1, 0, 0));
        Due.noSuch("15 cask 30", () -> x.stave(30, 0, 0));
    }

    private static void promise16() {
        CaskYard x = Yards.ripe(600);
        x.form(10, 160, 60, 8);
        x.make(1);
        x.make(0);
        Due.is("16 cask 0", 1, () -> x.formOf(0));
        Due.is("16 cask 1", 0, () -> x.formOf(1));
        Due.noSuch("16 cask 2", () -> x.formOf(2));
        Due.noSuch("16 cask -1", () -> x.formOf(-1));
    }

    private static void promise17() {
        CaskYard x = new CaskYard();
        Due.is("17 did not", false, () -> x.bars(3, 5, true));
        Due.is("17 did", true, () -> x.bars(3, 5, true));
        Due.is("17 not the other way", false, () -> x.bars(5, 3, false));
        Due.is("17 no more", true, () -> x.bars(3, 5, false));
        Due.is("17 is gone", false, () -> x.bars(3, 5, false));
        Due.is("17 itself", false, () -> x.bars(15, 15, true));
        Due.is("17 others stay", false, () -> x.bars(15, 14, false));
        Due.is("17 itself did", true, () -> x.bars(15, 15, true));
        for (int k : new int[] {-1, 16, Integer.MIN_VALUE, Integer.MAX_VALUE}) {
            Due.illegal("17 a " + k, () -> x.bars(k, 0, true));
            Due.illegal("17 b " + k, () -> x.bars(0, k, true));
        }
    }

    private static void promise18() {
        CaskYard x = Yards.two();
        x.bars(3, 5, true);
        x.bars(4, 4, true);
        Due.is("18 nothing met", true, () -> x.may(0, 5));
        x.tell(0, 1095, 3);
        Due.is("18 met what bars it", false, () -> x.may(0, 5));
        x.bars(0, 5, true);
        Due.is("18 met not what bars it", true, () -> x.may(1, 5));
        Due.is("18 what bars is let", true, () -> x.may(0, 3));
        Due.is("18 another cask", true, () -> x.may(1, 5));
        x.bars(3, 5, false);
        Due.is("18 bars no more", true, () -> x.may(0, 5));
        Due.is("18 itself, not yet met", true, () -> x.may(1, 4));
        x.tell(1, 0, 4);
        Due.is("18 itself, met", false, () -> x.may(1, 4));
        x.bars(0, 15, true);
        x.tell(1, 0, 0);
        Due.is("18 the last kind", false, () -> x.may(1, 15));
        Due.illegal("18 empty is no kind", () -> x.may(0, 16));
        Due.illegal("18 kind -1", () -> x.may(0, -1));
        Due.noSuch("18 cask 2", () -> x.may(2, 16));
    }

    private static void promise19() {
        CaskYard x = Yards.two();
        Due.is("19 first", 1, () -> x.tell(0, 1095, 3));
        Due.is("19 another cask's", 1, () -> x.tell(1, 0, 3));
        Due.is("19 second", 2, () -> x.tell(0, 1095, 16));
        Due.is("19 empty is not met", 8, () -> x.stave(0, 7, 1));
        Due.is("19 below 0", -1, () -> x.tell(0, -1, 2));
        Due.is("19 behind now", -1, () -> x.tell(0, 1096, 2));
        Due.is("19 behind now, empty", -1, () -> x.tell(0, 1096, 16));
        Due.is("19 far behind now", -1, () -> x.tell(0, Integer.MAX_VALUE, 2));
        x.bars(3, 5, true);
        Due.is("19 may not come in", -1, () -> x.tell(0, 0, 5));
        Due.is("19 nothing changed", 8, () -> x.stave(0, 0, 1));
        Due.is("19 nor is there an entry", 16, () -> x.held(0, 1095, 1095));
        Due.illegal("19 kind 17", () -> x.tell(0, 0, 17));
        Due.illegal("19 kind -1", () -> x.tell(0, 0, -1));
        Due.illegal("19 kind before day", () -> x.tell(0, -1, 17));
        Due.noSuch("19 cask 2", () -> x.tell(2, 0, 17));
        for (int n = 3; n <= 40; n++) {
            Due.is("19 entry " + n, n, () -> x.tell(0, 0, 16));
        }
        Due.is("19 the 41st", -1, () -> x.tell(0, 0, 7));
        Due.is("19 the 41st is not met", 8, () -> x.stave(0, 0, 1));
        Due.illegal("19 a wrong kind all the same", () -> x.tell(0, 0, 17));
        Due.is("19 another cask has room", 2, () -> x.tell(1, 1095, 15));
        x.swap(0, 1, 1, 1);
        Due.is("19 the staves of then met it", 1 << 15 | 8, () -> x.stave(0, 1, 1));
        Due.is("19 a stave of now", 3, () -> x.tell(1, 1095, 0));
        Due.is("19 had met", 9, () -> x.stave(1, 1, 1));
        Due.is("19 not the one that went", 1 << 15 | 8, () -> x.stave(0, 1, 1));
    }

    private static void promise20() {
        CaskYard x = Yards.two();
        Due.is("20 nothing told", -1, () -> x.held(0, 1095, 1095));
        x.tell(0, 1000, 3);
        x.days(10);
        x.tell(0, 900, 4);
        x.tell(0, 1000, 16);
        x.days(10);
        x.tell(0, 1000, 6);
        x.tell(0, 1110, 7);
        Due.is("20 before all", -1, () -> x.held(0, 899, 5000));
        Due.is("20 told later", -1, () -> x.held(0, 900, 1104));
        Due.is("20 told on that day", 4, () -> x.held(0, 900, 1105));
        Due.is("20 the latest day", 3, () -> x.held(0, 1000, 1104));
        Due.is("20 the one told last", 16, () -> x.held(0, 1000, 1114));
        Due.is("20 and then", 6, () -> x.held(0, 1000, 1115));
        Due.is("20 a day between", 4, () -> x.held(0, 999, 1115));
        Due.is("20 on and on", 7, () -> x.held(0, Integer.MAX_VALUE, Integer.MAX_VALUE));
        Due.is("20 before it was told", -1, () -> x.held(0, 1000, 1094));
        Due.is("20 negative days", -1, () -> x.held(0, -1, -1));
        Due.is("20 least", -1, () -> x.held(0, Integer.MIN_VALUE, Integer.MAX_VALUE));
        Due.is("20 another cask", -1, () -> x.held(1, 1000, 1115));
        x.tell(1, 0, 2);
        Due.is("20 on day 0", 2, () -> x.held(1, 0, 1115));
        Due.noSuch("20 cask 2", () -> x.held(2, 0, 0));
        Due.noSuch("20 cask -1", () -> x.held(-1, 0, 0));
    }

    private static void promise21() {
        CaskYard x = Yards.two();
        Due.is("21 all days", 100001, () -> x.lacks(0, 0, 100000, 0));
        Due.is("21 none empty", 0, () -> x.lacks(0, 0, 100000, 1));
        x.tell(0, 100, 3);
        x.tell(0, 110, 16);
        x.tell(0, 130, 4);
        x.tell(0, 140, 16);
        Due.is("21 unknown", 100, () -> x.lacks(0, 0, 200, 0));
        Due.is("21 empty", 20 + 61, () -> x.lacks(0, 0, 200, 1));
        Due.is("21 to the last day", 20 + 99861, () -> x.lacks(0, 0, 100000, 1));
        Due.is("21 both ends", 2, () -> x.lacks(0, 98, 99, 0));
        Due.is("21 up to a telling", 1, () -> x.lacks(0, 99, 100, 0));
        Due.is("21 one day", 1, () -> x.lacks(0, 110, 110, 1));
        Due.is("21 one day of a kind", 0, () -> x.lacks(0, 130, 130, 1));
        x.tell(0, 140, 5);
        Due.is("21 told anew", 20, () -> x.lacks(0, 0, 200, 1));
        x.tell(0, 0, 16);
        Due.is("21 nothing is unknown", 0, () -> x.lacks(0, 0, 200, 0));
        int[][] wrong = {
            {-1, 5, 0}, {5, 4, 0}, {0, 100001, 0}, {0, 1, 2}, {0, 1, -1}, {Integer.MIN_VALUE, Integer.MAX_VALUE, 0},
        };
        for (int[] w : wrong) {
            Due.illegal("21 wrong " + java.util.Arrays.toString(w), () -> x.lacks(0, w[0], w[1], w[2]));
        }
        Due.noSuch("21 cask 2", () -> x.lacks(2, 5, 4, 7));
        for (int i = 0; i < 40; i++) {
            x.tell(1, 2 * i, i % 2 == 0 ? 16 : 1);
        }
        Due.is("21 a full row", 40, () -> x.lacks(1, 0, 200, 1));
        Due.is("21 its part", 3, () -> x.lacks(1, 1, 5, 1));
        CaskYard y = Yards.two();
        for (int i = 0; i < 40; i++) {
            y.tell(0, 400 - 10 * i, i == 0 ? 16 : 1);
        }
        Due.is("21 behind forty days of entries", 101, () -> y.lacks(0, 0, 500, 1));
        Due.is("21 before forty days of entries", 10, () -> y.lacks(0, 0, 500, 0));
    }

    private static void promise22() {
        CaskYard x = Yards.two();
        x.tell(0, 1095, 3);
        x.days(1095);
        x.renew(1, 0);
        Due.is("22 its bolt before", 1, () -> x.stave(1, 0, 0));
        Due.is("22 one cask", false, () -> x.swap(0, 0, 0, 2));
        Due.is("22 unlike widths", false, () -> x.swap(0, 1, 1, 0));
        Due.is("22 nothing changed", 8, () -> x.stave(0, 1, 1));
        Due.is("22 like widths", true, () -> x.swap(0, 2, 1, 0));
        Due.is("22 bolt there", 1, () -> x.stave(0, 2, 0));
        Due.is("22 past there", 0, () -> x.stave(0, 2, 1));
        Due.is("22 bolt here", 0, () -> x.stave(1, 0, 0));
        Due.is("22 past here", 8, () -> x.stave(1, 0, 1));
        x.bars(3, 5, true);
        Due.is("22 the past comes along", false, () -> x.may(1, 5));
        Due.is("22 back", true, () -> x.swap(1, 0, 0, 2));
        Due.is("22 and is gone", true, () -> x.may(1, 5));
        Due.noSuch("22 cask 2", () -> x.swap(2, 0, 0, 0));
        Due.noSuch("22 other 2", () -> x.swap(0, 0, 2, 0));
        Due.noSuch("22 stave", () -> x.swap(0, 8, 1, 0));
        Due.noSuch("22 another", () -> x.swap(0, 0, 1, 8));
        Due.noSuch("22 another in one cask", () -> x.swap(0, 0, 0, -1));
        CaskYard y = Yards.ripe(600);
        y.form(20, 120, 60, 10);
        y.make(0);
        y.make(1);
        y.tell(1, 0, 2);
        Due.is("22 unlike forms, like widths", true, () -> y.swap(0, 4, 1, 9));
        Due.is("22 came over", 4, () -> y.stave(0, 4, 1));
        Due.noSuch("22 stave of the other form", () -> y.swap(0, 9, 1, 4));
    }

    private static void promise23() {
        CaskYard x = Yards.ripe(120, 30, 100);
        x.make(0);
        x.tell(0, 0, 3);
        x.flaw(2, 14, 20);
        Due.is("23 wide", 1, () -> x.renew(0, 1));
        Due.same("23 cut", "15-30", Yards.parts(x, 1));
        Due.is("23 no past", 0, () -> x.stave(0, 1, 1));
        Due.is("23 its bolt", 1, () -> x.stave(0, 1, 0));
        Due.is("23 others keep theirs", 8, () -> x.stave(0, 0, 1));
        Due.is("23 to the last", 1, () -> x.renew(0, 1));
        Due.same("23 no part is left", "", Yards.parts(x, 1));
        Due.is("23 the part in which it fits", 2, () -> x.renew(0, 1));
        Due.same("23 not the first part", "0-14 35-100", Yards.parts(x, 2));
        Due.is("23 narrow", 2, () -> x.renew(0, 0));
        Due.same("23 the first part", "35-100", Yards.parts(x, 2));
        x.flaw(2, 49, 600);
        x.tell(0, 0, 6);
        Due.is("23 none that can", -1, () -> x.renew(0, 3));
        Due.is("23 nothing changes", 8 | 64, () -> x.stave(0, 3, 1));
        x.bolt(600);
        Due.is("23 unripe", -1, () -> x.renew(0, 3));
        x.days(1095);
        Due.is("23 ripe", 3, () -> x.renew(0, 3));
        Due.noSuch("23 stave 8", () -> x.renew(0, 8));
        Due.noSuch("23 stave -1", () -> x.renew(0, -1));
        Due.noSuch("23 cask 1", () -> x.renew(1, 0));
        CaskYard y = Yards.ripe(116, 1, 1, 1, 1, 1, 1, 1, 1, 1, 1, 14);
        y.make(0);
        Due.is("23 not only eight are looked at", 11, () -> y.renew(0, 0));
    }

    private static void promise24() {
        CaskYard x = new CaskYard();
        Due.is("24 at first", 1000, () -> x.weight(0, 1));
        Due.is("24 then", 1, () -> x.weight(0, 5000));
        Due.is("24 and then", 5000, () -> x.weight(0, 5000));
        Due.is("24 the last kind", 1000, () -> x.weight(15, 2));
        Due.illegal("24 v 0", () -> x.weight(0, 0));
        Due.illegal("24 v 5001", () -> x.weight(0, 5001));
        Due.illegal("24 v below", () -> x.weight(0, Integer.MIN_VALUE));
        Due.illegal("24 kind 16", () -> x.weight(16, 1));
        Due.illegal("24 kind -1", () -> x.weight(-1, 1));
        Due.is("24 nothing changed", 5000, () -> x.weight(0, 7));
    }

    private static void promise25() {
        CaskYard x = Yards.two();
        Due.is("25 nothing known", -1, () -> x.weighs(0, 1));
        x.tell(0, 1095, 3);
        Due.is("25 by 1000", 734, () -> x.weighs(0, 2));
        x.weight(3, 999);
        Due.is("25 cut down", 285, () -> x.weighs(0, 1));
        Due.is("25 none in", 0, () -> x.weighs(0, 0));
        Due.is("25 full", 6113, () -> x.weighs(0, 10));
        x.tell(0, 1000, 5);
        Due.is("25 told of earlier", 285, () -> x.weighs(0, 1));
        x.tell(0, 1095, 16);
        Due.is("25 empty", -1, () -> x.weighs(0, 1));
        Due.illegal("25 level 11", () -> x.weighs(0, 11));
        Due.illegal("25 level -1", () -> x.weighs(0, -1));
        Due.illegal("25 level of a cask that held none", () -> x.weighs(1, 11));
        Due.noSuch("25 cask 2", () -> x.weighs(2, 11));
        x.tell(1, 0, 0);
        Due.is("25 kind 0", 286, () -> x.weighs(1, 1));
        CaskYard y = Yards.ripe(600, 600, 600, 600);
        y.form(200, 2000, 2000, 40);
        y.make(1);
        y.tell(0, 0, 15);
        y.weight(15, 5000);
        Due.is("25 the most", 318309855L, () -> y.weighs(0, 200));
    }

    private static void promise26() {
        CaskYard x = Yards.two();
        Due.is("26 now", 1095, () -> x.count(0));
        Due.is("26 forms", 1, () -> x.count(1));
        Due.is("26 bolts", 2, () -> x.count(2));
        Due.is("26 casks", 2, () -> x.count(3));
        Due.noSuch("26 what 4", () -> x.count(4));
        Due.noSuch("26 what -1", () -> x.count(-1));
    }
}
