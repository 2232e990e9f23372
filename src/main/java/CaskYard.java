import java.util.NoSuchElementException;

/**
 * A cooper's yard: FORMS of casks, BOLTS of wood that dry, and the CASKS made of them.
 * The words in capitals are those of the document (../shared/DOC.md).
 */
public final class CaskYard {
    public static final int NONE = -1;

    private static final int MOST_FORMS = 8;
    private static final int MOST_BOLTS = 40;
    private static final int MOST_CASKS = 30;
    private static final int MOST_STAVES = 40;
    private static final int MOST_PARTS = 4;
    private static final int MOST_ENTRIES = 40;
    private static final int MOST_WIDTH = 600;
    private static final int LAST_DAY = 100000;
    private static final int DAYS_TO_RIPEN = 1095;
    private static final int LOOKED_AT = 8;
    private static final int KINDS = 16;
    private static final int EMPTY = 16;
    private static final int SAW = 2;

    private final Form[] forms = new Form[MOST_FORMS];
    private final Bolt[] bolts = new Bolt[MOST_BOLTS];
    private final Cask[] casks = new Cask[MOST_CASKS];
    private final int[] barred = new int[KINDS];
    private final int[] weights = new int[KINDS];
    private final Saw saw = new Saw();
    private final Bolt spare = new Bolt(0, 0);
    private int formCount;
    private int boltCount;
    private int caskCount;
    private int now;

    public CaskYard() {
        for (int i = 0; i < KINDS; i++) {
            weights[i] = 1000;
        }
    }

    // ---- FORMS

    public int form(int height, int bilge, int head, int staves) {
        boolean high = height >= 10 && height <= 200 && height % 2 == 0;
        boolean round = bilge >= 100 && bilge <= 2000 && head >= 50 && head <= bilge;
        if (formCount >= MOST_FORMS || !high || !round || staves < 8 || staves > MOST_STAVES) {
            return NONE;
        }
        forms[formCount] = new Form(height, bilge, head, staves);
        formCount++;
        return formCount - 1;
    }

    public int girth(int form, int y) throws NoSuchElementException, IllegalArgumentException {
        Form f = formAt(form);
        checkHeight(f, y);
        return f.girthAt(y);
    }

    public int width(int form, int stave, int y) throws NoSuchElementException, IllegalArgumentException {
        Form f = formAt(form);
        checkStave(f, stave);
        checkHeight(f, y);
        return f.widthAt(stave, y);
    }

    public int holds(int form, int level) throws NoSuchElementException, IllegalArgumentException {
        Form f = formAt(form);
        checkHeight(f, level);
        return f.contentTo(level);
    }

    public int level(int form, int much) throws NoSuchElementException, IllegalArgumentException {
        Form f = formAt(form);
        if (much < 0) {
            throw new IllegalArgumentException("much is below 0");
        }
        return f.leastLevel(much);
    }

    public int head(int form) throws NoSuchElementException {
        return formAt(form).girthAt(0) * 113 / 355;
    }

    // ---- DAYS and BOLTS

    public int days(int n) throws IllegalArgumentException {
        if (n < 0 || n > LAST_DAY - now) {
            throw new IllegalArgumentException("no such day");
        }
        now += n;
        return now;
    }

    public int bolt(int width) {
        if (boltCount >= MOST_BOLTS || width < 1 || width > MOST_WIDTH) {
            return NONE;
        }
        bolts[boltCount] = new Bolt(width, now);
        boltCount++;
        return boltCount - 1;
    }

    public int flaw(int bolt, int from, int to) throws NoSuchElementException {
        Bolt b = boltAt(bolt);
        if (from < 0 || from >= to || to > MOST_WIDTH) {
            return NONE;
        }
        // Into spare rows first: too many parts must leave the BOLT as it was.
        spare.parts = 0;
        for (int i = 0; i < b.parts; i++) {
            boolean room = spare.addPart(b.begin[i], Math.min(b.end[i], from))
                    && spare.addPart(Math.max(b.begin[i], to), b.end[i]);
            if (!room) {
                return NONE;
            }
        }
        b.takePartsOf(spare);
        return b.parts;
    }

    public int clear(int bolt, int i, int what) throws NoSuchElementException {
        Bolt b = boltAt(bolt);
        if (i < 0 || i >= b.parts || what < 0 || what > 1) {
            throw new NoSuchElementException("no such part");
        }
        return what == 0 ? b.begin[i] : b.end[i];
    }

    public boolean ripe(int bolt) throws NoSuchElementException {
        return isRipe(boltAt(bolt));
    }

    public int fewest(int form) throws NoSuchElementException {
        int set = setFor(formAt(form));
        return set == 0 ? NONE : Integer.bitCount(set);
    }

    // ---- CASKS

    public int make(int form) throws NoSuchElementException {
        Form f = formAt(form);
        if (caskCount >= MOST_CASKS) {
            return NONE;
        }
        int set = setFor(f);
        if (set == 0) {
            return NONE;
        }
        Cask c = new Cask(form, f);
        saw.cutSet(set, f.wides(), f.narrows());
        handOut(c);
        casks[caskCount] = c;
        caskCount++;
        return caskCount - 1;
    }

    public int stave(int cask, int stave, int what) throws NoSuchElementException {
        Cask c = caskAt(cask);
        checkStave(c.shape, stave);
        if (what < 0 || what > 2) {
            throw new NoSuchElementException("no such what");
        }
        if (what == 2) {
            return c.shape.bilgeWidth(stave);
        }
        return what == 0 ? c.boltOf[stave] : c.past[stave];
    }

    public int formOf(int cask) throws NoSuchElementException {
        return caskAt(cask).formNumber;
    }

    public boolean bars(int a, int b, boolean is) throws IllegalArgumentException {
        checkKind(a);
        checkKind(b);
        boolean did = (barred[a] >> b & 1) != 0;
        barred[a] = is ? barred[a] | 1 << b : barred[a] & ~(1 << b);
        return did;
    }

    public boolean may(int cask, int kind) throws NoSuchElementException, IllegalArgumentException {
        Cask c = caskAt(cask);
        checkKind(kind);
        return isLet(c, kind);
    }

    public int tell(int cask, int day, int kind) throws NoSuchElementException, IllegalArgumentException {
        Cask c = caskAt(cask);
        if (kind != EMPTY) {
            checkKind(kind);
        }
        if (day < 0 || day > now || c.entries >= MOST_ENTRIES) {
            return NONE;
        }
        if (kind != EMPTY) {
            if (!isLet(c, kind)) {
                return NONE;
            }
            c.meet(kind);
        }
        c.addEntry(day, now, kind);
        return c.entries;
    }

    public int held(int cask, int day, int known) throws NoSuchElementException {
        return caskAt(cask).heldOn(day, known);
    }

    public int lacks(int cask, int from, int to, int what) throws NoSuchElementException, IllegalArgumentException {
        Cask c = caskAt(cask);
        if (from < 0 || from > to || to > LAST_DAY || what < 0 || what > 1) {
            throw new IllegalArgumentException("no such days or what");
        }
        int sought = what == 0 ? NONE : EMPTY;
        int total = 0;
        int day = from;
        // What is HELD changes only on the DAYS of entries, so whole stretches are counted at once.
        for (int i = 0; i <= MOST_ENTRIES && day <= to; i++) {
            int next = Math.min(c.nextEntryDay(day), to + 1);
            if (c.heldOn(day, now) == sought) {
                total += next - day;
            }
            day = next;
        }
        return total;
    }

    public boolean swap(int cask, int stave, int other, int another) throws NoSuchElementException {
        Cask c = caskAt(cask);
        Cask d = caskAt(other);
        checkStave(c.shape, stave);
        checkStave(d.shape, another);
        if (cask == other || c.shape.bilgeWidth(stave) != d.shape.bilgeWidth(another)) {
            return false;
        }
        int bolt = c.boltOf[stave];
        int past = c.past[stave];
        c.boltOf[stave] = d.boltOf[another];
        c.past[stave] = d.past[another];
        d.boltOf[another] = bolt;
        d.past[another] = past;
        return true;
    }

    public int renew(int cask, int stave) throws NoSuchElementException {
        Cask c = caskAt(cask);
        checkStave(c.shape, stave);
        int piece = c.shape.bilgeWidth(stave) + SAW;
        for (int i = 0; i < boltCount; i++) {
            Bolt b = bolts[i];
            if (b != null && isRipe(b) && b.cutFirst(piece)) {
                c.boltOf[stave] = i;
                c.past[stave] = 0;
                return i;
            }
        }
        return NONE;
    }

    public int weight(int kind, int v) throws IllegalArgumentException {
        checkKind(kind);
        if (v < 1 || v > 5000) {
            throw new IllegalArgumentException("no such weight");
        }
        int was = weights[kind];
        weights[kind] = v;
        return was;
    }

    public long weighs(int cask, int level) throws NoSuchElementException, IllegalArgumentException {
        Cask c = caskAt(cask);
        checkHeight(c.shape, level);
        int kind = c.heldOn(now, now);
        if (kind < 0 || kind >= KINDS) {
            return NONE;
        }
        return (long) c.shape.contentTo(level) * weights[kind] / 1000;
    }

    public int count(int what) throws NoSuchElementException {
        switch (what) {
            case 0:
                return now;
            case 1:
                return formCount;
            case 2:
                return boltCount;
            case 3:
                return caskCount;
            default:
                throw new NoSuchElementException("no such what");
        }
    }

    // ---- what the calls share

    private Form formAt(int i) {
        Form f = i < 0 || i >= MOST_FORMS ? null : forms[i];
        if (f == null) {
            throw new NoSuchElementException("no such form");
        }
        return f;
    }

    private Bolt boltAt(int i) {
        Bolt b = i < 0 || i >= MOST_BOLTS ? null : bolts[i];
        if (b == null) {
            throw new NoSuchElementException("no such bolt");
        }
        return b;
    }

    private Cask caskAt(int i) {
        Cask c = i < 0 || i >= MOST_CASKS ? null : casks[i];
        if (c == null) {
            throw new NoSuchElementException("no such cask");
        }
        return c;
    }

    private static void checkStave(Form f, int stave) {
        if (stave < 0 || stave >= f.staves) {
            throw new NoSuchElementException("no such stave");
        }
    }

    private static void checkHeight(Form f, int y) {
        if (y < 0 || y > f.height) {
            throw new IllegalArgumentException("no such height");
        }
    }

    private static void checkKind(int kind) {
        if (kind < 0 || kind >= KINDS) {
            throw new IllegalArgumentException("no such kind");
        }
    }

    private boolean isRipe(Bolt b) {
        return now - b.split >= DAYS_TO_RIPEN;
    }

    private boolean isLet(Cask c, int kind) {
        int met = c.wholePast();
        for (int a = 0; a < KINDS; a++) {
            if ((met >> a & 1) != 0 && (barred[a] >> kind & 1) != 0) {
                return false;
            }
        }
        return true;
    }

    /** The set of BOLTS that a CASK of this FORM takes, as bits of the saw's places: 0 if there is none. */
    private int setFor(Form f) {
        saw.prepare(f.narrowPiece());
        for (int i = 0; i < boltCount; i++) {
            Bolt b = bolts[i];
            if (b != null && isRipe(b)) {
                saw.lay(b, i);
            }
        }
        return saw.fewestSet(f.wides(), f.narrows());
    }

    private void handOut(Cask c) {
        int wide = 0;
        int narrow = 0;
        for (int i = 0; i < saw.parts; i++) {
            wide = c.takePieces(saw.wideCut[i], true, wide, saw.number[i]);
            narrow = c.takePieces(saw.narrowCut[i], false, narrow, saw.number[i]);
        }
    }

    /** Division cut down, for numbers that are not negative: the divisor is looked at before it divides. */
    private static int parted(int a, int b) {
        return b <= 0 ? 0 : a / b;
    }

    private static final class Form {
        final int height;
        final int bilge;
        final int headGirth;
        final int staves;

        Form(int height, int bilge, int headGirth, int staves) {
            this.height = height;
            this.bilge = bilge;
            this.headGirth = headGirth;
            this.staves = staves;
        }

        int girthAt(int y) {
            int off = 2 * y - height;
            return bilge - parted((bilge - headGirth) * off * off, height * height);
        }

        int widthAt(int stave, int y) {
            int around = girthAt(y);
            return parted(around * (stave + 1), staves) - parted(around * stave, staves);
        }

        int bilgeWidth(int stave) {
            return widthAt(stave, height / 2);
        }

        int contentTo(int top) {
            long sum = 0;
            for (int y = 0; y < top; y++) {
                sum += squareAt(y);
            }
            return content(sum);
        }

        int leastLevel(int much) {
            long sum = 0;
            for (int l = 0; l <= height; l++) {
                if (content(sum) >= much) {
                    return l;
                }
                sum += squareAt(l);
            }
            return NONE;
        }

        private long squareAt(int y) {
            long around = girthAt(y);
            return around * around;
        }

        private static int content(long squares) {
            return (int) (squares * 113 / 1420);
        }

        int narrowPiece() {
            return parted(bilge, staves) + SAW;
        }

        /** The WIDTHS at h / 2 add up to the bilge and differ by 1 at most: what even shares leave is the WIDE ones. */
        int wides() {
            return bilge - parted(bilge, staves) * staves;
        }

        int narrows() {
            return staves - wides();
        }

        boolean isWide(int stave) {
            return bilgeWidth(stave) + SAW > narrowPiece();
        }
    }

    private static final class Bolt {
        final int split;
        final int[] begin = new int[MOST_PARTS];
        final int[] end = new int[MOST_PARTS];
        int parts;

        Bolt(int width, int split) {
            this.split = split;
            this.end[0] = width;
            this.parts = 1;
        }

        /** False if there is no room for one more part; a part of no width needs none. */
        boolean addPart(int from, int to) {
            if (from >= to) {
                return true;
            }
            if (parts >= MOST_PARTS) {
                return false;
            }
            begin[parts] = from;
            end[parts] = to;
            parts++;
            return true;
        }

        void takePartsOf(Bolt other) {
            parts = other.parts;
            for (int i = 0; i < parts; i++) {
                begin[i] = other.begin[i];
                end[i] = other.end[i];
            }
        }

        boolean cutFirst(int piece) {
            for (int i = 0; i < parts; i++) {
                if (end[i] - begin[i] >= piece) {
                    begin[i] += piece;
                    dropEmptyParts();
                    return true;
                }
            }
            return false;
        }

        void dropEmptyParts() {
            int all = parts;
            parts = 0;
            for (int i = 0; i < all; i++) {
                addPart(begin[i], end[i]);
            }
        }
    }

    private static final class Cask {
        final int formNumber;
        final Form shape;
        final int[] boltOf = new int[MOST_STAVES];
        final int[] past = new int[MOST_STAVES];
        final int[] entryDay = new int[MOST_ENTRIES];
        final int[] entryTold = new int[MOST_ENTRIES];
        final int[] entryKind = new int[MOST_ENTRIES];
        int entries;

        Cask(int formNumber, Form shape) {
            this.formNumber = formNumber;
            this.shape = shape;
        }

        /** Gives the next STAVES of one WIDTH, from one on, to a BOLT: behind the last of them. */
        int takePieces(int many, boolean wide, int from, int bolt) {
            int left = many;
            int k = from;
            while (left > 0 && k < shape.staves) {
                if (shape.isWide(k) == wide) {
                    boltOf[k] = bolt;
                    left--;
                }
                k++;
            }
            return k;
        }

        int wholePast() {
            int met = 0;
            for (int k = 0; k < shape.staves; k++) {
                met |= past[k];
            }
            return met;
        }

        void meet(int kind) {
            for (int k = 0; k < shape.staves; k++) {
                past[k] |= 1 << kind;
            }
        }

        void addEntry(int day, int told, int kind) {
            if (entries < MOST_ENTRIES) {
                entryDay[entries] = day;
                entryTold[entries] = told;
                entryKind[entries] = kind;
                entries++;
            }
        }

        int heldOn(int day, int known) {
            int latest = -1;
            int kind = NONE;
            // Entries stand as they were told: of one DAY the later one takes the place.
            for (int i = 0; i < entries; i++) {
                if (entryTold[i] <= known && entryDay[i] <= day && entryDay[i] >= latest) {
                    latest = entryDay[i];
                    kind = entryKind[i];
                }
            }
            return kind;
        }

        /** The first DAY behind this one that has an entry, or one behind all DAYS. */
        int nextEntryDay(int day) {
            int next = LAST_DAY + 1;
            for (int i = 0; i < entries; i++) {
                if (entryDay[i] > day) {
                    next = Math.min(next, entryDay[i]);
                }
            }
            return next;
        }
    }

    /** The CLEAR parts of the BOLTS looked at, and how they are cut into the PIECES of one CASK. */
    private static final class Saw {
        private static final int MOST = LOOKED_AT * MOST_PARTS;

        final Bolt[] laid = new Bolt[LOOKED_AT];
        final int[] place = new int[MOST];
        final int[] number = new int[MOST];
        final int[] length = new int[MOST];
        final int[] asWide = new int[MOST];
        final int[] more = new int[MOST];
        final int[] loss = new int[MOST];
        final int[] byLoss = new int[MOST];
        final boolean[] open = new boolean[MOST];
        final int[] wideCut = new int[MOST];
        final int[] narrowCut = new int[MOST];
        int boltsLaid;
        int parts;
        int narrow;

        void prepare(int narrowPiece) {
            boltsLaid = 0;
            parts = 0;
            narrow = narrowPiece;
        }

        void lay(Bolt b, int boltNumber) {
            if (boltsLaid >= LOOKED_AT) {
                return;
            }
            for (int i = 0; i < b.parts; i++) {
                layPart(b.end[i] - b.begin[i], boltNumber);
            }
            laid[boltsLaid] = b;
            boltsLaid++;
        }

        /**
         * A part that gives n PIECES gives at most min(n, length - n * narrow) WIDE ones among them. So it gives
         * asWide WIDE ones for nothing; the first PIECE more costs it loss WIDE ones, each further one narrow of them.
         */
        private void layPart(int wood, int boltNumber) {
            if (parts >= MOST) {
                return;
            }
            int most = parted(wood, narrow + 1);
            place[parts] = boltsLaid;
            number[parts] = boltNumber;
            length[parts] = wood;
            asWide[parts] = most;
            more[parts] = parted(wood, narrow) - most;
            loss[parts] = narrow - (wood - most * (narrow + 1));
            sortIn(parts);
            parts++;
        }

        private void sortIn(int part) {
            int at = part;
            while (at > 0 && loss[byLoss[at - 1]] > loss[part]) {
                byLoss[at] = byLoss[at - 1];
                at--;
            }
            byLoss[at] = part;
        }

        /**
         * The first of the sets with the fewest BOLTS, 0 if none gives the PIECES. The BOLT laid first has the highest
         * bit, so that of two sets with as many BOLTS the one that is first as a row is the greater number.
         */
        int fewestSet(int wides, int narrows) {
            int best = 0;
            int fewestBolts = LOOKED_AT + 1;
            int all = 1 << LOOKED_AT;
            int step = 1 << LOOKED_AT - boltsLaid;
            // Where all of them do not give the PIECES, fewer do not either.
            openSet(all - step);
            if (!canGive(wides, narrows)) {
                return 0;
            }
            for (int set = all - step; set > 0; set -= step) {
                int many = Integer.bitCount(set);
                if (many < fewestBolts) {
                    openSet(set);
                    if (canGive(wides, narrows)) {
                        best = set;
                        fewestBolts = many;
                    }
                }
            }
            return best;
        }

        private void openSet(int set) {
            for (int i = 0; i < parts; i++) {
                open[i] = (set >> LOOKED_AT - 1 - place[i] & 1) != 0;
            }
        }

        /**
         * Whether the open parts give the PIECES. What a PIECE more costs a part never falls from one to the next, so
         * taking the cheapest ones of all parts keeps as many WIDE ones as can be.
         */
        private boolean canGive(int wides, int narrows) {
            int most = 0;
            for (int i = 0; i < parts; i++) {
                most += open[i] ? asWide[i] : 0;
            }
            int wanted = wides + narrows - most;
            int further = 0;
            for (int i = 0; i < parts && wanted > 0; i++) {
                int part = byLoss[i];
                if (open[part] && more[part] > 0) {
                    most -= loss[part];
                    further += more[part] - 1;
                    wanted--;
                }
            }
            int rest = Math.max(0, wanted);
            return rest <= further && most - rest * narrow >= wides;
        }

        void cutSet(int set, int wides, int narrows) {
            int wideLeft = wides;
            int narrowLeft = narrows;
            openSet(set);
            for (int i = 0; i < parts; i++) {
                wideCut[i] = 0;
                narrowCut[i] = 0;
                if (open[i]) {
                    // Closed first: what is left must come from the parts behind this one.
                    open[i] = false;
                    choose(i, wideLeft, narrowLeft);
                    wideLeft -= wideCut[i];
                    narrowLeft -= narrowCut[i];
                }
            }
            shorten();
        }

        private void choose(int part, int wideLeft, int narrowLeft) {
            for (int w = Math.min(asWide[part], wideLeft); w >= 0; w--) {
                int n = Math.min(narrowLeft, parted(length[part] - w * (narrow + 1), narrow));
                if (canGive(wideLeft - w, narrowLeft - n)) {
                    wideCut[part] = w;
                    narrowCut[part] = n;
                    return;
                }
            }
        }

        private void shorten() {
            int part = 0;
            for (int p = 0; p < boltsLaid; p++) {
                Bolt b = laid[p];
                if (b != null) {
                    part = shortenBolt(b, part);
                }
            }
        }

        /** The parts of a BOLT stand here from one on, as they were laid: behind the last of them. */
        private int shortenBolt(Bolt b, int from) {
            int part = from;
            for (int i = 0; i < b.parts && part < parts; i++) {
                b.begin[i] += wideCut[part] * (narrow + 1) + narrowCut[part] * narrow;
                part++;
            }
            b.dropEmptyParts();
            return part;
        }
    }
}
