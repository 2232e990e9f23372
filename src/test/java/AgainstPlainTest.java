import java.util.Arrays;
import java.util.Random;

/** Random runs of up to 512 calls, the same on every machine, answered by the program and by PlainYard. */
public final class AgainstPlainTest {
    private static final int RUNS = 300;
    private static final int CALLS = 512;
    private static final String[] NAMES = {
        "form", "girth", "width", "holds", "level", "head", "days", "bolt", "flaw", "clear", "ripe", "fewest", "make",
        "stave", "formOf", "bars", "may", "tell", "held", "lacks", "swap", "renew", "weight", "weighs", "count",
    };
    /** How often each of NAMES is called, once the run has a yard to speak of. */
    private static final int[] OFTEN = {
        2, 1, 1, 1, 2, 1, 10, 10, 10, 10, 1, 6, 14, 14, 1, 4, 4, 16, 10, 3, 10, 6, 2, 4, 1,
    };
    private static final int[] ODD = {
        Integer.MIN_VALUE, -600, -1, 0, 1, 2, 3, 4, 7, 8, 9, 15, 16, 17, 29, 30, 39, 40, 41, 200, 201, 600, 601, 5000,
        5001, 100000, 100001, Integer.MAX_VALUE,
    };

    private final Random random;
    private final CaskYard yard = new CaskYard();
    private final PlainYard plain = new PlainYard();
    private final int ease;
    private int now = 0;

    private AgainstPlainTest(int run) {
        random = new Random(run);
        ease = run % 4;
    }

    public static void main(String[] args) {
        for (int run = 0; run < RUNS; run++) {
            new AgainstPlainTest(run).go(run);
        }
        Due.end("AgainstPlainTest");
    }

    private void go(int run) {
        for (int i = 0; i < CALLS; i++) {
            int op = i < 12 ? new int[] {0, 7, 7, 7, 8, 6}[i % 6] : pick();
            int[] a = arguments(op);
            if (random.nextInt(25) == 0) {
                a[random.nextInt(a.length)] = ODD[random.nextInt(ODD.length)];
            }
            String got = Due.answer(() -> ask(op, a));
            Due.same("run " + run + ", call " + i + ": " + NAMES[op] + Arrays.toString(a),
                    Due.answer(() -> askPlain(op, a)), got);
            if (op == 6 && !got.equals("IAE")) {
                now = Integer.parseInt(got);
            }
        }
    }

    private int pick() {
        int sum = 0;
        for (int o : OFTEN) {
            sum += o;
        }
        int x = random.nextInt(sum);
        int op = 0;
        while (x >= OFTEN[op]) {
            x -= OFTEN[op];
            op++;
        }
        return op;
    }

    private int upTo(int most) {
        return random.nextInt(most + 1);
    }

    private int someForm() {
        return upTo(yard.count(1));
    }

    private int someBolt() {
        return upTo(Math.max(0, yard.count(2) - 1));
    }

    private int someCask() {
        return upTo(Math.max(0, yard.count(3) - 1));
    }

    private int someDay() {
        return Math.max(0, now - (random.nextBoolean() ? upTo(20) : upTo(2000)));
    }

    private int[] arguments(int op) {
        int[] a = new int[] {0, 0, 0, 0};
        switch (op) {
            case 0: return someShape();
            case 1: case 3: return new int[] {someForm(), upTo(30), 0, 0};
            case 2: return new int[] {someForm(), upTo(12), upTo(30), 0};
            case 4: return new int[] {someForm(), upTo(1 << upTo(24)), 0, 0};
            case 5: case 11: case 12: a[0] = someForm(); return a;
            case 6: a[0] = new int[] {0, 1, upTo(30), upTo(400), 1094, 1095}[upTo(5)]; return a;
            case 7: a[0] = 1 + upTo(new int[] {599, 200, 120, 60}[ease]); return a;
            case 8: a[0] = someBolt(); a[1] = upTo(300); a[2] = a[1] + upTo(12); return a;
            case 9: return new int[] {someBolt(), upTo(3), upTo(1), 0};
            case 10: a[0] = someBolt(); return a;
            case 13: return new int[] {someCask(), upTo(14), upTo(2), 0};
            case 14: a[0] = someCask(); return a;
            case 15: return new int[] {upTo(6), upTo(6), upTo(3) == 0 ? 1 : 0, 0};
            case 16: return new int[] {someCask(), upTo(6), 0, 0};
            case 17: return new int[] {someCask(), someDay(), upTo(5) == 0 ? 16 : upTo(6), 0};
            case 18: return new int[] {someCask(), someDay(), someDay(), 0};
            case 19: a[1] = someDay(); return new int[] {someCask(), a[1], a[1] + upTo(700), upTo(1)};
            case 20: return new int[] {someCask(), upTo(14), someCask(), upTo(14)};
            case 21: return new int[] {someCask(), upTo(14), 0, 0};
            case 22: return new int[] {upTo(15), 1 + upTo(4999), 0, 0};
            case 23: return new int[] {someCask(), upTo(20), 0, 0};
            default: a[0] = upTo(3); return a;
        }
    }

    private int[] someShape() {
        int bilge = 100 + upTo(new int[] {1900, 500, 200, 60}[ease]);
        return new int[] {10 + 2 * upTo(upTo(2) == 0 ? 95 : 8), bilge, 50 + upTo(bilge - 50), 8 + upTo(32)};
    }

    private Object ask(int op, int[] a) {
        switch (op) {
            case 0: return yard.form(a[0], a[1], a[2], a[3]);
            case 1: return yard.girth(a[0], a[1]);
            case 2: return yard.width(a[0], a[1], a[2]);
            case 3: return yard.holds(a[0], a[1]);
            case 4: return yard.level(a[0], a[1]);
            case 5: return yard.head(a[0]);
            case 6: return yard.days(a[0]);
            case 7: return yard.bolt(a[0]);
            case 8: return yard.flaw(a[0], a[1], a[2]);
            case 9: return yard.clear(a[0], a[1], a[2]);
            case 10: return yard.ripe(a[0]);
            case 11: return yard.fewest(a[0]);
            case 12: return yard.make(a[0]);
            case 13: return yard.stave(a[0], a[1], a[2]);
            case 14: return yard.formOf(a[0]);
            case 15: return yard.bars(a[0], a[1], a[2] == 1);
            case 16: return yard.may(a[0], a[1]);
            case 17: return yard.tell(a[0], a[1], a[2]);
            case 18: return yard.held(a[0], a[1], a[2]);
            case 19: return yard.lacks(a[0], a[1], a[2], a[3]);
            case 20: return yard.swap(a[0], a[1], a[2], a[3]);
            case 21: return yard.renew(a[0], a[1]);
            case 22: return yard.weight(a[0], a[1]);
            case 23: return yard.weighs(a[0], a[1]);
            default: return yard.count(a[0]);
        }
    }

    private Object askPlain(int op, int[] a) {
        switch (op) {
            case 0: return plain.form(a[0], a[1], a[2], a[3]);
            case 1: return plain.girth(a[0], a[1]);
            case 2: return plain.width(a[0], a[1], a[2]);
            case 3: return plain.holds(a[0], a[1]);
            case 4: return plain.level(a[0], a[1]);
            case 5: return plain.head(a[0]);
            case 6: return plain.days(a[0]);
            case 7: return plain.bolt(a[0]);
            case 8: return plain.flaw(a[0], a[1], a[2]);
            case 9: return plain.clear(a[0], a[1], a[2]);
            case 10: return plain.ripe(a[0]);
            case 11: return plain.fewest(a[0]);
            case 12: return plain.make(a[0]);
            case 13: return plain.stave(a[0], a[1], a[2]);
            case 14: return plain.formOf(a[0]);
            case 15: return plain.bars(a[0], a[1], a[2] == 1);
            case 16: return plain.may(a[0], a[1]);
            case 17: return plain.tell(a[0], a[1], a[2]);
            case 18: return plain.held(a[0], a[1], a[2]);
            case 19: return plain.lacks(a[0], a[1], a[2], a[3]);
            case 20: return plain.swap(a[0], a[1], a[2], a[3]);
            case 21: return plain.renew(a[0], a[1]);
            case 22: return plain.weight(a[0], a[1]);
            case 23: return plain.weighs(a[0], a[1]);
            default: return plain.count(a[0]);
        }
    }
}
