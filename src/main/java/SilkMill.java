import java.util.Arrays;
import java.util.NoSuchElementException;

/**
 * A silk mill: cocoons of lots are reeled by pots into skeins, which are graded, mixed, sold and paid.
 * What each call promises stands in the project's document; the words here are the document's.
 */
public final class SilkMill {
    public static final int NONE = -1;

    private static final int MOST_LOTS = 10;
    private static final int MOST_COCOONS = 60;
    private static final int MOST_POTS = 4;
    private static final int MOST_ENDS = 12;
    private static final int MOST_METRES = 300;
    private static final int MOST_PIECES = MOST_METRES * MOST_ENDS;
    private static final int FIRST_PIECES = 32;
    private static final int MOST_SKEINS = 40;
    private static final int MOST_FAULTS = 40;
    private static final int MOST_TICKS = 300;
    private static final int MOST_BYTES = 400;
    private static final int MOST_RULES = 12;
    private static final int MOST_CONDITIONS = 4;
    private static final int MOST_MIXED = 14;
    private static final int MOST_DRAWN = 5;
    private static final int SHELF_PLACES = 16;
    private static final int LONGEST_WORD = 8;
    private static final int GRADES = 4;
    private static final int WORST_GRADE = 3;

    private static final int IN_LOT = 0;
    private static final int IN_BASKET = 1;
    private static final int AN_END = 2;
    private static final int LOST = 3;
    private static final int SPENT = 4;
    private static final int SHELVED = 5;
    private static final int THROWN = 6;

    private static final int KIND_COCOON = 0;
    private static final int KIND_NUMBER = 1;
    private static final int KIND_WORD = 2;

    private static final int WENT_AS_WASTE = -2;
    private static final int PLACE_IS_EMPTY = -2;
    private static final int OTHER_KIND = -3;
    private static final int ROW_MISSING = -4;

    private static final int FIELD_FINE = 0;
    private static final int FIELD_ENDS = 1;
    private static final int FIELD_BASKET = 2;
    private static final int FIELD_LOST = 3;
    private static final int FIELD_MADE = 4;
    private static final int FIELD_THIN = 5;
    private static final int FIELD_DAY = 6;

    private static final int ACT_CAST = 0;
    private static final int ACT_DROP = 1;
    private static final int ACT_FIND = 2;
    private static final int ACT_THROW = 3;
    private static final int ACT_CUT = 4;
    private static final int ACT_STOP = 5;

    private static final int[] THIN = {100, 104, 102, 97, 90, 81, 70, 58};

    private final Cocoon[] cocoons = new Cocoon[MOST_LOTS * MOST_COCOONS];
    private final int[] lotSizes = new int[MOST_LOTS];
    private int lots;
    private final Pot[] pots = new Pot[MOST_POTS];
    private int potsMade;
    private final Tape tape = new Tape();
    private Rules spareRules = new Rules();
    private final Store store = new Store();
    private final Draw latestDraw = new Draw();
    private final Place[] shelf = new Place[SHELF_PLACES];
    private int shelved;
    private final int[] idle = new int[MOST_COCOONS];

    public SilkMill() {
        for (int i = 0; i < SHELF_PLACES; i++) {
            shelf[i] = new Place();
        }
    }

    public int lot(int n, int seed, int base, int length, int frail) {
        if (lots >= MOST_LOTS || !isWithin(n, 1, MOST_COCOONS) || !isWithin(base, 20, 60)
                || !isWithin(length, 40, 200) || !isWithin(frail, 0, 200)) {
            return NONE;
        }
        for (int i = 0; i < n; i++) {
            cocoons[lots * MOST_COCOONS + i] = new Cocoon(lots, i, seed, base, length, frail);
        }
        lotSizes[lots] = n;
        lots++;
        return lots - 1;
    }

    public int cocoon(int l, int i, int what) {
        Cocoon c = cocoonAt(l, i);
        if (c == null) {
            return NONE;
        }
        switch (what) {
            case 0: return c.length;
            case 1: return c.stand;
            case 2: return c.drawnTo;
            case 3: return c.finenessAt(c.drawnTo);
            case 4: return c.silkBetween(0, c.length);
            case 5: return c.silkBetween(0, c.drawnTo);
            case 6: return c.isInPot() ? c.potNumber : NONE;
            default: return NONE;
        }
    }

    public int fineness(int l, int i, int p) throws IndexOutOfBoundsException {
        Cocoon c = cocoonAt(l, i);
        if (c == null || p < 0 || p >= c.length) {
            throw new IndexOutOfBoundsException("there is no such place of a cocoon");
        }
        return c.finenessAt(p);
    }

    public int test(int l, int seed, int n) {
        if (l < 0 || l >= lots || n < 0) {
            return NONE;
        }
        int left = listIdle(l);
        if (n > left) {
            return NONE;
        }
        int breaking = 0;
        int x = seed;
        for (int t = 0; t < n && left > 0; t++) {
            x = next(x);
            int at = (x >>> 16) % left;
            Cocoon c = cocoonAt(l, idle[at]);
            if (c != null && c.breaksAnywhere()) {
                breaking++;
            }
            left--;
            System.arraycopy(idle, at + 1, idle, at, left - at);
        }
        return breaking;
    }

    public int pot(int target, int find) {
        if (potsMade >= MOST_POTS || !isTarget(target) || !isWithin(find, 1, 50)) {
            return NONE;
        }
        pots[potsMade] = new Pot(potsMade, target, find);
        potsMade++;
        return potsMade - 1;
    }

    public boolean target(int p, int v) {
        Pot pot = potAt(p);
        if (pot == null || !isTarget(v)) {
            return false;
        }
        pot.aim = v;
        return true;
    }

    public boolean fill(int p, int l, int from, int n) {
        Pot pot = potAt(p);
        if (pot == null || !isWithin(n, 1, MOST_COCOONS) || !isWithin(from, 0, MOST_COCOONS - 1)) {
            return false;
        }
        for (int i = from; i < from + n; i++) {
            Cocoon c = cocoonAt(l, i);
            if (c == null || c.stand != IN_LOT) {
                return false;
            }
        }
        for (int i = from; i < from + n; i++) {
            pot.receive(cocoonAt(l, i));
        }
        return true;
    }

    public int feed(int a, int b, int c, int d, int e) {
        if (tape.size + 20 > MOST_BYTES) {
            return NONE;
        }
        tape.append(a);
        tape.append(b);
        tape.append(c);
        tape.append(d);
        tape.append(e);
        return tape.size;
    }

    public int end(int n) {
        if (n < 0 || n > tape.size) {
            return NONE;
        }
        tape.size = n;
        return n;
    }

    public int program(int p) {
        Pot pot = potAt(p);
        if (pot == null) {
            tape.forgetFault();
            return NONE;
        }
        boolean whole = tape.readInto(spareRules);
        tape.size = 0;
        if (!whole) {
            return tape.faultKind - 10;
        }
        Rules old = pot.rules;
        pot.rules = spareRules;
        spareRules = old;
        return pot.rules.size;
    }

    public int place() {
        return tape.faultPlace;
    }

    public int run(int p, int n) {
        Pot pot = potAt(p);
        if (pot == null || !isWithin(n, 0, MOST_TICKS)) {
            return NONE;
        }
        int metres = 0;
        for (int t = 0; t < n; t++) {
            if (pot.tick(store)) {
                metres++;
            }
        }
        return metres;
    }

    public int about(int p, int what) {
        Pot pot = potAt(p);
        if (pot == null) {
            return NONE;
        }
        switch (what) {
            case 0: return pot.basket.size;
            case 1: return pot.ends.size;
            case 2: return pot.lost.size;
            case 3: return pot.strand.metres;
            case 4: return pot.stop;
            case 5: return pot.search;
            case 6: return pot.ends.sumOfFineness();
            case 7: return pot.metresEver;
            case 8: return pot.ticksEver;
            case 9: return pot.rules.size;
            case 10: return pot.aim;
            default: return NONE;
        }
    }

    public int in(int p, int row, int i) throws NoSuchElementException {
        Pot pot = potAt(p);
        Row cocoonsOfRow = pot == null ? null : pot.rowNumbered(row);
        Cocoon c = cocoonsOfRow == null ? null : cocoonsOfRow.at(i);
        if (c == null) {
            throw new NoSuchElementException("there is no such cocoon in a pot");
        }
        return c.code();
    }

    public int cut(int p) {
        Pot pot = potAt(p);
        return pot == null ? NONE : pot.cutStrand(store);
    }

    public int skein(int k, int what) {
        Skein s = store.skeinAt(k);
        if (s == null) {
            return NONE;
        }
        switch (what) {
            case 0: return s.potNumber;
            case 1: return s.dayCut;
            case 2: return s.strand.metres;
            case 3: return s.strand.silk;
            case 4: return s.least;
            case 5: return s.greatest;
            case 6: return s.slips;
            case 7: return s.strand.pieces;
            case 8: return s.latestGrade;
            case 9: return s.sold ? 1 : 0;
            case 10: return store.priceOf(s);
            case 11: return s.aim;
            default: return NONE;
        }
    }

    public int metre(int k, int m, int what) {
        Skein s = store.skeinAt(k);
        if (s == null || m < 0 || m >= s.strand.metres) {
            return NONE;
        }
        switch (what) {
            case 0: return s.strand.fineness[m];
            case 1: return s.strand.endCounts[m];
            default: return NONE;
        }
    }

    public int piece(int k, int i, int what) {
        Skein s = store.skeinAt(k);
        if (s == null || i < 0 || i >= s.strand.pieces) {
            return NONE;
        }
        switch (what) {
            case 0: return s.strand.codes[i] / 100;
            case 1: return s.strand.codes[i] % 100;
            case 2: return s.strand.firsts[i];
            case 3: return s.strand.lengths[i];
            case 4: return s.strand.places[i];
            default: return NONE;
        }
    }

    public int grade(int k, int seed, int d) {
        Skein s = store.skeinAt(k);
        if (s == null || !isWithin(d, 1, MOST_DRAWN) || d > s.strand.metres) {
            return NONE;
        }
        latestDraw.drawFrom(s, seed, d);
        s.latestGrade = latestDraw.gradeOfOff();
        return s.latestGrade;
    }

    public int drawn(int what) {
        if (latestDraw.size == 0 || what < 0) {
            return NONE;
        }
        if (what == 0) {
            return latestDraw.off;
        }
        if (what == 1) {
            return latestDraw.bound;
        }
        return what - 2 < latestDraw.size ? latestDraw.metres[what - 2] : NONE;
    }

    public boolean shelve(int place, int kind, int a, int b) {
        Place there = shelfAt(place);
        if (there == null || there.kind != NONE) {
            return false;
        }
        boolean done;
        switch (kind) {
            case KIND_COCOON: done = there.putCocoon(cocoonAt(a, b)); break;
            case KIND_NUMBER: done = there.putNumber(a); break;
            case KIND_WORD: done = there.putWord(a, b); break;
            default: done = false; break;
        }
        if (done) {
            shelved++;
        }
        return done;
    }

    public int take(int place, int kind) {
        Place there = shelfAt(place);
        if (there == null || !isWithin(kind, KIND_COCOON, KIND_WORD)) {
            return NONE;
        }
        if (there.kind == NONE) {
            return PLACE_IS_EMPTY;
        }
        if (there.kind != kind) {
            return OTHER_KIND;
        }
        if (kind == KIND_WORD && there.wordSize == 0) {
            return ROW_MISSING;
        }
        shelved--;
        return there.giveUp();
    }

    public boolean copy(int from, int at, int to, int where, int n) {
        Place source = shelfAt(from);
        Place goal = shelfAt(to);
        if (source == null || goal == null || !source.hasRow() || !goal.hasRow()) {
            return false;
        }
        if (!isStretch(at, n, source.wordSize) || !isStretch(where, n, goal.wordSize)) {
            return false;
        }
        System.arraycopy(source.word, at, goal.word, where, n);
        return true;
    }

    public int number(int place, int i) {
        Place there = shelfAt(place);
        if (there == null || !there.hasRow() || i < 0 || i >= there.wordSize) {
            return NONE;
        }
        return there.word[i];
    }

    public boolean price(int grade, int v) {
        if (!isWithin(grade, 0, GRADES - 1) || !isWithin(v, 0, 1000)) {
            return false;
        }
        store.prices[grade] = v;
        return true;
    }

    public int mix(int w, int low, int high, boolean sell) {
        return w < 1 ? NONE : store.mixFor(w, low, high, sell);
    }

    public boolean mixed(int k) {
        Skein s = store.skeinAt(k);
        return s != null && s.inLatestMix;
    }

    public int day() {
        store.today++;
        return store.today;
    }

    public boolean fault(int k, int amount) {
        return store.skeinAt(k) != null && isWithin(amount, 1, 10000) && store.tellFault(k, amount);
    }

    public int pay(int p, int a, int k) {
        if (potAt(p) == null || !isWithin(a, 0, store.today) || !isWithin(k, 0, store.today)) {
            return 0;
        }
        return store.payFor(p, a, k);
    }

    public int count(int what) {
        switch (what) {
            case 0: return lots;
            case 1: return potsMade;
            case 2: return store.kept;
            case 3: return store.today;
            case 4: return tape.size;
            case 5: return store.faults;
            case 6: return store.silkDrawn;
            case 7: return store.silkKept;
            case 8: return silkThatGrows();
            case 9: return store.waste;
            case 10: return store.silkThrown;
            case 11: return shelved;
            default: return NONE;
        }
    }

    private static int next(int x) {
        return x * 1103515245 + 12345;
    }

    private static boolean isWithin(int v, int least, int most) {
        return v >= least && v <= most;
    }

    private static boolean isTarget(int v) {
        return isWithin(v, 10, 2000);
    }

    /** Whether n things from one on lie within a row; written so that no sum can wrap. */
    private static boolean isStretch(int from, int n, int size) {
        return n >= 0 && n <= size && from >= 0 && from <= size - n;
    }

    private Cocoon cocoonAt(int l, int i) {
        if (l < 0 || l >= lots || i < 0 || i >= lotSizes[l]) {
            return null;
        }
        return cocoons[l * MOST_COCOONS + i];
    }

    private Pot potAt(int p) {
        return p < 0 || p >= potsMade ? null : pots[p];
    }

    private Place shelfAt(int place) {
        return place < 0 || place >= SHELF_PLACES ? null : shelf[place];
    }

    private int listIdle(int l) {
        int found = 0;
        for (int i = 0; i < MOST_COCOONS; i++) {
            Cocoon c = cocoonAt(l, i);
            if (c != null && c.stand == IN_LOT) {
                idle[found] = i;
                found++;
            }
        }
        return found;
    }

    private int silkThatGrows() {
        int sum = 0;
        for (int p = 0; p < potsMade; p++) {
            Pot pot = potAt(p);
            sum += pot == null ? 0 : pot.strand.silk;
        }
        return sum;
    }

    private static final class Cocoon {
        final int lotNumber;
        final int index;
        final int length;
        int stand = IN_LOT;
        int drawnTo;
        int potNumber = NONE;
        int latestPiece;
        private final int seed;
        private final int base;
        private final int frail;

        Cocoon(int lotNumber, int index, int seed, int base, int length, int frail) {
            this.lotNumber = lotNumber;
            this.index = index;
            this.seed = seed;
            this.frail = frail;
            int x = next(seed + 7919 * index);
            this.length = Math.max(20, length + (x >>> 16) % 41 - 20);
            x = next(x);
            this.base = base + (x >>> 16) % 9 - 4;
        }

        int code() {
            return lotNumber * 100 + index;
        }

        boolean isInPot() {
            return stand == IN_BASKET || stand == AN_END || stand == LOST;
        }

        int finenessAt(int p) {
            if (p < 0 || p >= length) {
                return 0;
            }
            return base * THIN[8 * p / length] / 100;
        }

        int silkBetween(int from, int to) {
            int sum = 0;
            for (int p = from; p < to; p++) {
                sum += finenessAt(p);
            }
            return sum;
        }

        boolean breaksAnywhere() {
            for (int p = 0; p < length; p++) {
                if (breaksAt(p)) {
                    return true;
                }
            }
            return false;
        }

        void drawOneMetre() {
            int before = drawnTo;
            drawnTo++;
            if (drawnTo >= length) {
                stand = SPENT;
            } else if (breaksAt(before)) {
                stand = LOST;
            }
        }

        private boolean breaksAt(int p) {
            return (next(seed + 131 * index + 17 * p) >>> 16) % 1000 < frail;
        }
    }

    /** Cocoons in order, in a ring, so that taking from or putting to the front moves no other. */
    private static final class Row {
        int size;
        private final Cocoon[] cells;
        private int head;

        Row(int most) {
            cells = new Cocoon[Math.max(1, most)];
        }

        Cocoon at(int i) {
            return i < 0 || i >= size ? null : cells[cellOf(i)];
        }

        void addLast(Cocoon c) {
            if (size < cells.length) {
                cells[cellOf(size)] = c;
                size++;
            }
        }

        void addFirst(Cocoon c) {
            if (size < cells.length) {
                head = head == 0 ? cells.length - 1 : head - 1;
                cells[head] = c;
                size++;
            }
        }

        Cocoon removeFirst() {
            if (size == 0) {
                return null;
            }
            Cocoon c = cells[head];
            head = cellOf(1);
            size--;
            return c;
        }

        Cocoon removeAt(int i) {
            Cocoon c = at(i);
            if (c == null) {
                return null;
            }
            for (int j = i; j < size - 1; j++) {
                cells[cellOf(j)] = cells[cellOf(j + 1)];
            }
            size--;
            return c;
        }

        int sumOfFineness() {
            int sum = 0;
            for (int i = 0; i < size; i++) {
                Cocoon c = at(i);
                sum += c == null ? 0 : c.finenessAt(c.drawnTo);
            }
            return sum;
        }

        /** Where the first of the thinnest stands; NONE without any. */
        int thinnest() {
            int found = NONE;
            int least = Integer.MAX_VALUE;
            for (int i = 0; i < size; i++) {
                Cocoon c = at(i);
                if (c != null && c.finenessAt(c.drawnTo) < least) {
                    least = c.finenessAt(c.drawnTo);
                    found = i;
                }
            }
            return found;
        }

        private int cellOf(int i) {
            int cell = head + i;
            return cell < cells.length ? cell : cell - cells.length;
        }
    }

    /**
     * The metres and pieces of a skein, in columns: an object for each piece would be too many for the room.
     * A pot has one that grows, whose rows are used again after each cut; a skein has a copy just as long.
     */
    private static final class Strand {
        final int[] fineness;
        final int[] endCounts;
        int metres;
        int silk;
        int pieces;
        int[] codes;
        int[] firsts;
        int[] lengths;
        int[] places;

        Strand() {
            fineness = new int[MOST_METRES];
            endCounts = new int[MOST_METRES];
            codes = new int[FIRST_PIECES];
            firsts = new int[FIRST_PIECES];
            lengths = new int[FIRST_PIECES];
            places = new int[FIRST_PIECES];
        }

        Strand(Strand grown) {
            metres = Math.max(0, grown.metres);
            silk = grown.silk;
            pieces = Math.max(0, grown.pieces);
            fineness = Arrays.copyOf(grown.fineness, metres);
            endCounts = Arrays.copyOf(grown.endCounts, metres);
            codes = Arrays.copyOf(grown.codes, pieces);
            firsts = Arrays.copyOf(grown.firsts, pieces);
            lengths = Arrays.copyOf(grown.lengths, pieces);
            places = Arrays.copyOf(grown.places, pieces);
        }

        void beginAnew() {
            metres = 0;
            silk = 0;
            pieces = 0;
        }

        void addMetre(int sum, int ends) {
            if (metres < MOST_METRES) {
                fineness[metres] = sum;
                endCounts[metres] = ends;
                metres++;
                silk += sum;
            }
        }

        /** A cocoon is drawn in a metre: its latest piece goes on if it reaches up to here. */
        void addMetreOf(Cocoon c, int metre) {
            int i = c.latestPiece;
            if (i >= 0 && i < pieces && codes[i] == c.code() && firsts[i] + lengths[i] == metre) {
                lengths[i]++;
                return;
            }
            if (pieces >= MOST_PIECES) {
                return;
            }
            makeRoomForPiece();
            codes[pieces] = c.code();
            firsts[pieces] = metre;
            lengths[pieces] = 1;
            places[pieces] = c.drawnTo;
            c.latestPiece = pieces;
            pieces++;
        }

        private void makeRoomForPiece() {
            if (pieces < codes.length) {
                return;
            }
            int room = Math.min(MOST_PIECES, 2 * pieces + 1);
            codes = Arrays.copyOf(codes, room);
            firsts = Arrays.copyOf(firsts, room);
            lengths = Arrays.copyOf(lengths, room);
            places = Arrays.copyOf(places, room);
        }
    }

    /** A skein that is kept. */
    private static final class Skein {
        final int potNumber;
        final int aim;
        final int dayCut;
        final Strand strand;
        final int least;
        final int greatest;
        final int slips;
        int latestGrade = WORST_GRADE;
        boolean sold;
        boolean inLatestMix;

        Skein(Strand strand, int potNumber, int aim, int dayCut) {
            this.strand = strand;
            this.potNumber = potNumber;
            this.aim = aim;
            this.dayCut = dayCut;
            int[] row = strand.fineness;
            int low = Integer.MAX_VALUE;
            int high = 0;
            int jumps = 0;
            for (int m = 0; m < row.length; m++) {
                low = Math.min(low, row[m]);
                high = Math.max(high, row[m]);
                if (m > 0 && Math.abs(row[m] - row[m - 1]) > 4) {
                    jumps++;
                }
            }
            least = low;
            greatest = high;
            slips = jumps;
        }

        boolean isOf(int pot, int day) {
            return potNumber == pot && dayCut == day;
        }
    }

    /** What the latest grading drew. */
    private static final class Draw {
        final int[] metres = new int[MOST_DRAWN];
        int size;
        int off;
        int bound;

        void drawFrom(Skein s, int seed, int d) {
            size = 0;
            off = 0;
            int x = seed;
            for (int t = 0; t < d && t < MOST_DRAWN && s.strand.metres > 0; t++) {
                x = next(x);
                int m = notDrawnFrom((x >>> 16) % s.strand.metres, s.strand.metres);
                metres[size] = m;
                size++;
                off = Math.max(off, Math.abs(s.strand.fineness[m] - s.aim));
            }
            bound = boundOf(s.strand.metres, size);
        }

        int gradeOfOff() {
            if (off <= 3) {
                return 0;
            }
            if (off <= 8) {
                return 1;
            }
            return off <= 20 ? 2 : WORST_GRADE;
        }

        private int notDrawnFrom(int start, int all) {
            int m = start;
            for (int step = 0; step < MOST_DRAWN && isDrawn(m); step++) {
                m = m + 1 < all ? m + 1 : 0;
            }
            return m;
        }

        private boolean isDrawn(int m) {
            for (int i = 0; i < size; i++) {
                if (metres[i] == m) {
                    return true;
                }
            }
            return false;
        }

        private static int boundOf(int n, int d) {
            long all = waysInOrder(n, d);
            for (int b = n - d; b > 0; b--) {
                if (20 * waysInOrder(n - b, d) >= all) {
                    return b;
                }
            }
            return 0;
        }

        private static long waysInOrder(int n, int d) {
            long ways = 1;
            for (int j = 0; j < d; j++) {
                ways *= n - j;
            }
            return ways;
        }
    }

    /** A program that was read; the conditions of rule r lie from r * MOST_CONDITIONS on. */
    private static final class Rules {
        int size;
        final int[] acts = new int[MOST_RULES];
        final int[] amounts = new int[MOST_RULES];
        final int[] conditions = new int[MOST_RULES];
        final int[] fields = new int[MOST_RULES * MOST_CONDITIONS];
        final int[] relations = new int[MOST_RULES * MOST_CONDITIONS];
        final int[] numbers = new int[MOST_RULES * MOST_CONDITIONS];

        void openRule() {
            if (size < MOST_RULES) {
                conditions[size] = 0;
            }
        }

        void addCondition(int field, int relation, int number) {
            if (size < MOST_RULES && conditions[size] < MOST_CONDITIONS) {
                int at = size * MOST_CONDITIONS + conditions[size];
                fields[at] = field;
                relations[at] = relation;
                numbers[at] = number;
                conditions[size]++;
            }
        }

        void closeRule(int act, int amount) {
            if (size < MOST_RULES) {
                acts[size] = act;
                amounts[size] = amount;
                size++;
            }
        }
    }

    /** The bytes that were fed, and their reading as a program, token by token from the left. */
    private static final class Tape {
        private static final int AT_END = 0;
        private static final int WORD = 1;
        private static final int DIGITS = 2;
        private static final int SIGN = 3;
        private static final int NO_TOKEN = 4;
        private static final int CANNOT_STAND = 1;
        private static final int TOO_MANY = 2;

        int size;
        int faultKind;
        int faultPlace = NONE;
        private final byte[] bytes = new byte[MOST_BYTES];
        private int token;
        private int start;
        private int behind;

        void append(int v) {
            if (size + 4 <= MOST_BYTES) {
                bytes[size] = (byte) (v >>> 24);
                bytes[size + 1] = (byte) (v >>> 16);
                bytes[size + 2] = (byte) (v >>> 8);
                bytes[size + 3] = (byte) v;
                size += 4;
            }
        }

        void forgetFault() {
            faultKind = 0;
            faultPlace = NONE;
        }

        boolean readInto(Rules rules) {
            forgetFault();
            rules.size = 0;
            behind = 0;
            advance();
            for (int r = 0; r <= MOST_RULES && token != AT_END; r++) {
                if (!readRule(rules)) {
                    return false;
                }
            }
            return true;
        }

        private boolean readRule(Rules rules) {
            boolean conditional = isWord("if");
            if (!conditional && actAtHand() == NONE) {
                return fail(CANNOT_STAND);
            }
            if (rules.size >= MOST_RULES) {
                return fail(TOO_MANY);
            }
            rules.openRule();
            if (conditional) {
                advance();
                if (!readConditions(rules)) {
                    return false;
                }
            }
            return readAct(rules);
        }

        private boolean readConditions(Rules rules) {
            for (int c = 0; c < MOST_CONDITIONS; c++) {
                if (!readCondition(rules)) {
                    return false;
                }
                if (isSign(':')) {
                    advance();
                    return true;
                }
                if (!isWord("and")) {
                    return fail(CANNOT_STAND);
                }
                advance();
            }
            return fail(fieldAtHand() == NONE ? CANNOT_STAND : TOO_MANY);
        }

        private boolean readCondition(Rules rules) {
            int field = fieldAtHand();
            if (field == NONE) {
                return fail(CANNOT_STAND);
            }
            advance();
            if (!isSign('<') && !isSign('=') && !isSign('>')) {
                return fail(CANNOT_STAND);
            }
            int relation = byteAt(start);
            advance();
            if (token != DIGITS) {
                return fail(CANNOT_STAND);
            }
            rules.addCondition(field, relation, numberAtHand());
            advance();
            return true;
        }

        private boolean readAct(Rules rules) {
            int act = actAtHand();
            if (act == NONE) {
                return fail(CANNOT_STAND);
            }
            advance();
            int amount = 0;
            if (act == ACT_STOP) {
                if (token != DIGITS) {
                    return fail(CANNOT_STAND);
                }
                amount = numberAtHand();
                advance();
            }
            if (!isSign(';')) {
                return fail(CANNOT_STAND);
            }
            advance();
            rules.closeRule(act, amount);
            return true;
        }

        private boolean fail(int kind) {
            faultKind = kind;
            faultPlace = start;
            return false;
        }

        private int fieldAtHand() {
            if (isWord("fine")) return FIELD_FINE;
            if (isWord("ends")) return FIELD_ENDS;
            if (isWord("basket")) return FIELD_BASKET;
            if (isWord("lost")) return FIELD_LOST;
            if (isWord("made")) return FIELD_MADE;
            if (isWord("thin")) return FIELD_THIN;
            return isWord("day") ? FIELD_DAY : NONE;
        }

        private int actAtHand() {
            if (isWord("cast")) return ACT_CAST;
            if (isWord("drop")) return ACT_DROP;
            if (isWord("find")) return ACT_FIND;
            if (isWord("throw")) return ACT_THROW;
            if (isWord("cut")) return ACT_CUT;
            return isWord("stop") ? ACT_STOP : NONE;
        }

        private int numberAtHand() {
            int value = 0;
            for (int i = start; i < behind; i++) {
                value = value * 10 + byteAt(i) - '0';
            }
            return value;
        }

        private boolean isSign(char sign) {
            return token == SIGN && byteAt(start) == sign;
        }

        private boolean isWord(String word) {
            if (token != WORD || behind - start != word.length()) {
                return false;
            }
            for (int i = 0; i < word.length(); i++) {
                if (byteAt(start + i) != word.charAt(i)) {
                    return false;
                }
            }
            return true;
        }

        private void advance() {
            start = behind;
            while (start < size && isBlank(byteAt(start))) {
                start++;
            }
            behind = start;
            if (start >= size) {
                token = AT_END;
            } else if (isLetter(byteAt(start))) {
                while (behind < size && isLetter(byteAt(behind))) {
                    behind++;
                }
                token = behind - start <= 8 ? WORD : NO_TOKEN;
            } else if (isDigit(byteAt(start))) {
                while (behind < size && isDigit(byteAt(behind))) {
                    behind++;
                }
                token = behind - start <= 4 ? DIGITS : NO_TOKEN;
            } else {
                behind++;
                token = isSignByte(byteAt(start)) ? SIGN : NO_TOKEN;
            }
        }

        private int byteAt(int i) {
            return i < 0 || i >= size || i >= MOST_BYTES ? 0 : bytes[i];
        }

        private static boolean isBlank(int b) {
            return b == 32 || b == 10;
        }

        private static boolean isLetter(int b) {
            return b >= 'a' && b <= 'z';
        }

        private static boolean isDigit(int b) {
            return b >= '0' && b <= '9';
        }

        private static boolean isSignByte(int b) {
            return b == '<' || b == '=' || b == '>' || b == ':' || b == ';';
        }
    }

    private static final class Pot {
        final Row basket = new Row(MOST_LOTS * MOST_COCOONS);
        final Row ends = new Row(MOST_ENDS);
        final Row lost = new Row(MOST_LOTS * MOST_COCOONS);
        final Strand strand = new Strand();
        int aim;
        int stop;
        int search;
        int metresEver;
        int ticksEver;
        Rules rules = new Rules();
        private final int potNumber;
        private final int find;

        Pot(int potNumber, int aim, int find) {
            this.potNumber = potNumber;
            this.aim = aim;
            this.find = find;
        }

        void receive(Cocoon c) {
            if (c != null) {
                c.potNumber = potNumber;
                c.stand = IN_BASKET;
                basket.addLast(c);
            }
        }

        Row rowNumbered(int row) {
            switch (row) {
                case 0: return basket;
                case 1: return ends;
                case 2: return lost;
                default: return null;
            }
        }

        /** One tick: whether a metre was drawn in it. */
        boolean tick(Store store) {
            ticksEver++;
            searchLost();
            if (stop == 0) {
                applyRules(store);
            }
            if (stop > 0) {
                stop--;
                return false;
            }
            if (ends.size == 0) {
                return false;
            }
            drawMetre(store);
            return true;
        }

        int cutStrand(Store store) {
            if (strand.metres == 0) {
                return NONE;
            }
            int number = store.keep(strand, potNumber, aim);
            strand.beginAnew();
            return number;
        }

        private void searchLost() {
            if (lost.size == 0) {
                return;
            }
            search++;
            if (search >= find) {
                search = 0;
                fetchLost();
            }
        }

        private void fetchLost() {
            Cocoon c = lost.removeFirst();
            if (c != null) {
                c.stand = IN_BASKET;
                basket.addLast(c);
            }
            if (lost.size == 0) {
                search = 0;
            }
        }

        private void applyRules(Store store) {
            for (int r = 0; r < rules.size; r++) {
                if (allHold(r, store.today)) {
                    act(rules.acts[r], rules.amounts[r], store);
                }
            }
        }

        private boolean allHold(int r, int today) {
            int from = r * MOST_CONDITIONS;
            for (int c = from; c < from + rules.conditions[r]; c++) {
                int value = valueOf(rules.fields[c], today);
                if (!isRelated(value, rules.relations[c], rules.numbers[c])) {
                    return false;
                }
            }
            return true;
        }

        private int valueOf(int field, int today) {
            switch (field) {
                case FIELD_FINE: return ends.sumOfFineness();
                case FIELD_ENDS: return ends.size;
                case FIELD_BASKET: return basket.size;
                case FIELD_LOST: return lost.size;
                case FIELD_MADE: return strand.metres;
                case FIELD_THIN: return finenessOf(ends.at(ends.thinnest()));
                default: return today;
            }
        }

        private static boolean isRelated(int value, int relation, int number) {
            if (relation == '<') {
                return value < number;
            }
            return relation == '=' ? value == number : value > number;
        }

        private void act(int act, int amount, Store store) {
            switch (act) {
                case ACT_CAST: castFirst(); break;
                case ACT_DROP: dropThinnest(); break;
                case ACT_FIND: findFirst(); break;
                case ACT_THROW: throwLast(store); break;
                case ACT_CUT: cutStrand(store); break;
                default: stop += amount; break;
            }
        }

        private void castFirst() {
            if (basket.size > 0 && ends.size < MOST_ENDS) {
                Cocoon c = basket.removeFirst();
                if (c != null) {
                    c.stand = AN_END;
                    ends.addLast(c);
                }
            }
        }

        private void dropThinnest() {
            Cocoon c = ends.removeAt(ends.thinnest());
            if (c != null) {
                c.stand = IN_BASKET;
                basket.addFirst(c);
            }
        }

        private void findFirst() {
            if (lost.size > 0) {
                fetchLost();
                stop += 2;
            }
        }

        private void throwLast(Store store) {
            Cocoon c = basket.removeAt(basket.size - 1);
            if (c != null) {
                c.stand = THROWN;
                store.silkThrown += c.silkBetween(c.drawnTo, c.length);
            }
        }

        private static int finenessOf(Cocoon c) {
            return c == null ? 0 : c.finenessAt(c.drawnTo);
        }

        private void drawMetre(Store store) {
            int sum = ends.sumOfFineness();
            int drawn = ends.size;
            int metre = strand.metres;
            strand.addMetre(sum, drawn);
            store.silkDrawn += sum;
            metresEver++;
            // Each end is taken from the front and, if it stays one, put behind: so all keep their order.
            for (int i = 0; i < drawn; i++) {
                drawEnd(ends.removeFirst(), metre);
            }
            if (strand.metres >= MOST_METRES) {
                cutStrand(store);
            }
        }

        private void drawEnd(Cocoon c, int metre) {
            if (c == null) {
                return;
            }
            strand.addMetreOf(c, metre);
            c.drawOneMetre();
            if (c.stand == AN_END) {
                ends.addLast(c);
            } else if (c.stand == LOST) {
                lost.addLast(c);
            }
        }
    }

    /** The skeins that are kept, with what is known of silk, prices, days and faults. */
    private static final class Store {
        int kept;
        int today;
        int silkDrawn;
        int silkKept;
        int silkThrown;
        int waste;
        int faults;
        final int[] prices = {100, 80, 50, 20};
        private final Skein[] skeins = new Skein[MOST_SKEINS];
        private final int[] faultSkeins = new int[MOST_FAULTS];
        private final int[] faultDays = new int[MOST_FAULTS];
        private final int[] faultAmounts = new int[MOST_FAULTS];
        private final Mixer mixer = new Mixer();

        Skein skeinAt(int k) {
            return k < 0 || k >= kept ? null : skeins[k];
        }

        int keep(Strand grown, int potNumber, int aim) {
            if (kept >= MOST_SKEINS) {
                waste += grown.silk;
                return WENT_AS_WASTE;
            }
            skeins[kept] = new Skein(new Strand(grown), potNumber, aim, today);
            silkKept += grown.silk;
            kept++;
            return kept - 1;
        }

        int priceOf(Skein s) {
            int g = isWithin(s.latestGrade, 0, GRADES - 1) ? s.latestGrade : WORST_GRADE;
            return s.strand.silk * prices[g] / 100;
        }

        int mixFor(int w, int low, int high, boolean sell) {
            mixer.beginFor(w);
            for (int k = 0; k < kept; k++) {
                Skein s = skeinAt(k);
                if (s != null && !s.sold && s.least >= low && s.greatest <= high) {
                    mixer.offer(k, s.strand.silk, priceOf(s));
                }
            }
            int sum = mixer.leastPrice();
            if (sum != NONE) {
                markMix(sell);
            }
            return sum;
        }

        private void markMix(boolean sell) {
            for (int k = 0; k < kept; k++) {
                Skein s = skeinAt(k);
                if (s != null) {
                    s.inLatestMix = mixer.isChosen(k);
                    s.sold = s.sold || s.inLatestMix && sell;
                }
            }
        }

        boolean tellFault(int k, int amount) {
            if (faults >= MOST_FAULTS) {
                return false;
            }
            faultSkeins[faults] = k;
            faultDays[faults] = today;
            faultAmounts[faults] = amount;
            faults++;
            return true;
        }

        int payFor(int p, int dayCut, int dayKnown) {
            int sum = 0;
            for (int k = 0; k < kept; k++) {
                Skein s = skeinAt(k);
                if (s != null && s.isOf(p, dayCut)) {
                    sum += priceOf(s);
                }
            }
            for (int f = 0; f < faults; f++) {
                Skein s = skeinAt(faultSkeins[f]);
                if (s != null && s.isOf(p, dayCut) && faultDays[f] <= dayKnown) {
                    sum -= faultAmounts[f];
                }
            }
            return sum;
        }
    }

    /** Seeks the cheapest of all sets of the skeins offered that are heavy enough. */
    private static final class Mixer {
        private final int[] numbers = new int[MOST_MIXED];
        private final int[] weights = new int[MOST_MIXED];
        private final int[] prices = new int[MOST_MIXED];
        private int size;
        private int offered;
        private int wanted;
        private int bestPrice;
        private int bestSet;

        void beginFor(int w) {
            size = 0;
            offered = 0;
            wanted = w;
            bestPrice = Integer.MAX_VALUE;
            bestSet = 0;
        }

        void offer(int k, int weight, int price) {
            if (size < MOST_MIXED) {
                numbers[size] = k;
                weights[size] = weight;
                prices[size] = price;
                size++;
                offered += weight;
            }
        }

        int leastPrice() {
            seek(this, 0, 0, offered, 0);
            return bestSet == 0 ? NONE : bestPrice;
        }

        boolean isChosen(int k) {
            for (int i = 0; i < size; i++) {
                if (numbers[i] == k) {
                    return (bestSet >> i & 1) == 1;
                }
            }
            return false;
        }

        /**
         * Sets with a skein are sought ahead of those without, the lowest number deciding first, so of sets
         * of like price the one that is due comes first and stays. The most that can still be reached is the
         * weight of all but those left out.
         */
        private static void seek(Mixer mixer, int i, int set, int reachable, int price) {
            if (reachable < mixer.wanted || price >= mixer.bestPrice) {
                return;
            }
            if (i >= mixer.size || i >= MOST_MIXED) {
                mixer.bestPrice = price;
                mixer.bestSet = set;
                return;
            }
            seek(mixer, i + 1, set | 1 << i, reachable, price + mixer.prices[i]);
            seek(mixer, i + 1, set, reachable - mixer.weights[i], price);
        }
    }

    /** One place of the shelf; its word's row is made once and used again. */
    private static final class Place {
        int kind = NONE;
        int wordSize;
        final int[] word = new int[LONGEST_WORD];
        private Cocoon cocoon;
        private int number;

        boolean hasRow() {
            return kind == KIND_WORD && wordSize > 0;
        }

        boolean putCocoon(Cocoon c) {
            if (c == null || c.stand != IN_LOT) {
                return false;
            }
            c.stand = SHELVED;
            cocoon = c;
            kind = KIND_COCOON;
            return true;
        }

        boolean putNumber(int v) {
            number = v;
            kind = KIND_NUMBER;
            return true;
        }

        boolean putWord(int n, int each) {
            if (!isWithin(n, 0, LONGEST_WORD)) {
                return false;
            }
            Arrays.fill(word, each);
            wordSize = n;
            kind = KIND_WORD;
            return true;
        }

        /** Empties the place: the answer that tells what was on it. */
        int giveUp() {
            int was = kind;
            kind = NONE;
            if (was == KIND_NUMBER) {
                return number;
            }
            return was == KIND_WORD ? sumOfWord() : returnCocoon();
        }

        private int sumOfWord() {
            int sum = 0;
            for (int i = 0; i < wordSize && i < LONGEST_WORD; i++) {
                sum += word[i];
            }
            return sum;
        }

        private int returnCocoon() {
            if (cocoon == null) {
                return NONE;
            }
            cocoon.stand = IN_LOT;
            return cocoon.code();
        }
    }
}
