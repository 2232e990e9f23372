import java.util.Random;

/** Promises 10 to 14 and 23 on many small yards whose wood is just enough, or just not, against PlainYard. */
public final class CutTest {
    private static final int YARDS = 4000;

    private final Random random;
    private final CaskYard yard = new CaskYard();
    private final PlainYard plain = new PlainYard();
    private final String name;

    private CutTest(int seed) {
        random = new Random(77000 + seed);
        name = "yard " + seed + " ";
    }

    public static void main(String[] args) {
        for (int i = 0; i < YARDS; i++) {
            new CutTest(i).go();
        }
        Due.end("CutTest");
    }

    private void go() {
        int staves = 8 + random.nextInt(random.nextBoolean() ? 33 : 8);
        int bilge = 100 + random.nextInt(random.nextBoolean() ? 1901 : 300);
        yard.form(10, bilge, 50, staves);
        plain.form(10, bilge, 50, staves);
        int late = random.nextInt(12);
        int many = 1 + random.nextInt(12);
        splitBolts(many, bilge, staves);
        late(late, bilge, staves);
        for (int i = 0; i < 4; i++) {
            Due.same(name + "fewest " + i, Due.answer(() -> plain.fewest(0)), Due.answer(() -> yard.fewest(0)));
            Due.same(name + "make " + i, Due.answer(() -> plain.make(0)), Due.answer(() -> yard.make(0)));
            compare("after make " + i);
        }
        int k = random.nextInt(staves);
        Due.same(name + "renew", Due.answer(() -> plain.renew(0, k)), Due.answer(() -> yard.renew(0, k)));
        compare("after renew");
    }

    private void late(int many, int bilge, int staves) {
        yard.days(1095);
        plain.days(1095);
        if (many == 0) {
            splitBolts(1, bilge, staves);
        }
    }

    /** Widths and flaws that leave parts of some whole pieces and little or nothing more. */
    private void splitBolts(int many, int bilge, int staves) {
        int narrow = bilge / staves + 2;
        int share = 1 + random.nextInt(staves);
        for (int i = 0; i < many; i++) {
            int width = Math.min(600, about(narrow, share));
            yard.bolt(width);
            int bolt = plain.bolt(width);
            for (int f = random.nextInt(5); f > 0; f--) {
                int from = Math.min(599, about(narrow, share));
                int to = Math.min(600, from + 1 + random.nextInt(3));
                Due.same(name + "flaw", Due.answer(() -> plain.flaw(bolt, from, to)),
                        Due.answer(() -> yard.flaw(bolt, from, to)));
            }
        }
    }

    private int about(int narrow, int share) {
        int pieces = random.nextInt(share) + 1;
        return pieces * narrow + random.nextInt(random.nextBoolean() ? pieces + 1 : narrow + 1);
    }

    private void compare(String when) {
        StringBuilder due = new StringBuilder();
        StringBuilder got = new StringBuilder();
        for (int b = 0; b < plain.count(2); b++) {
            for (int i = 0; i < 10; i++) {
                int bolt = b;
                int at = i;
                due.append(' ').append(Due.answer(() -> plain.clear(bolt, at / 2, at % 2)));
                got.append(' ').append(Due.answer(() -> yard.clear(bolt, at / 2, at % 2)));
            }
        }
        int last = plain.count(3) - 1;
        for (int k = 0; last >= 0 && k < 40; k++) {
            int at = k;
            due.append(' ').append(Due.answer(() -> plain.stave(last, at, 0)));
            got.append(' ').append(Due.answer(() -> yard.stave(last, at, 0)));
        }
        Due.same(name + when, due.toString(), got.toString());
    }
}
