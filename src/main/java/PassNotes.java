/** A mountain post by notes: huts write sheets of their passes, and find their ways by the sheets carried to them. */
public final class PassNotes {
    private static final int MAX_HUTS = 10;
    private static final int MAX_PASSES = 20;
    private static final int MAX_AREA = 3;
    private static final int MAX_LENGTH = 99;
    private static final int MAX_MINUTES = 60;
    private static final int MAX_SETTLING = 40;
    private static final int MAX_LETTER_STEPS = 20;
    private static final int RENEWED_FROM_AGE = 20;
    private static final int MAX_AGE = 30;
    private static final int DIGEST_START = 1627;

    // A way is one number, made of its length, its passes and its first step in this order,
    // so that the smaller number is the better way.
    private static final int ONE_LENGTH = 256;
    private static final int ONE_PASS = 16;
    private static final int NO_WAY = 1 << 30;

    private static final int NO_PASS = -1;

    private final Land land;
    private final Notes now;
    private final Notes later;
    private final Chart truthChart;
    private final int[] truthWays;

    public PassNotes() {
        land = new Land();
        now = new Notes(land);
        later = new Notes(land);
        truthChart = new Chart();
        truthWays = new int[MAX_HUTS];
    }

    // ---- huts and passes

    public int hut(int area) throws IllegalArgumentException, IllegalStateException {
        if (area < 0 || area > MAX_AREA) {
            throw new IllegalArgumentException("an area is 0 to 3");
        }
        if (land.huts() >= MAX_HUTS) {
            throw new IllegalStateException("there are 10 huts");
        }
        return land.addHut(area);
    }

    public int pass(int a, int b, int length)
            throws IndexOutOfBoundsException, IllegalArgumentException, IllegalStateException {
        checkHut(a);
        checkHut(b);
        if (a == b) {
            throw new IllegalArgumentException("a pass joins two huts");
        }
        checkLength(length);
        if (land.passes() >= MAX_PASSES) {
            throw new IllegalStateException("there are 20 passes");
        }
        return land.addPass(a, b, length);
    }

    public int setLength(int pass, int length) throws IndexOutOfBoundsException, IllegalArgumentException {
        checkPass(pass);
        checkLength(length);
        return land.changeLength(pass, length);
    }

    public boolean setOpen(int pass, boolean open) throws IndexOutOfBoundsException {
        checkPass(pass);
        return land.changeOpen(pass, open);
    }

    public int burn(int hut) throws IndexOutOfBoundsException {
        checkHut(hut);
        return now.burnAll(hut);
    }

    // ---- sheets and ways

    public int sheet(int hut, int of, int what) throws IndexOutOfBoundsException {
        checkHut(hut);
        checkHut(of);
        checkWhat(what, 2);
        Sheet sheet = now.held(hut, of);
        if (sheet == null) {
            return -1;
        }
        switch (what) {
            case 0: return sheet.number();
            case 1: return sheet.age(now.minute());
            default: return sheet.passesTold();
        }
    }

    public int way(int hut, int to, int what) throws IndexOutOfBoundsException {
        checkHut(hut);
        checkHut(to);
        checkWhat(what, 2);
        int way = now.knownWay(hut, to);
        if (way == NO_WAY) {
            return -1;
        }
        switch (what) {
            case 0: return way / ONE_LENGTH;
            case 1: return way % ONE_LENGTH / ONE_PASS;
            default: return way % ONE_PASS;
        }
    }

    public int post(int from, int to) throws IndexOutOfBoundsException {
        checkHut(from);
        checkHut(to);
        return now.letter(from, to);
    }

    public int truth(int a, int b) throws IndexOutOfBoundsException {
        checkHut(a);
        checkHut(b);
        land.draw(truthChart);
        truthChart.search(a, truthWays);
        int way = truthWays[b];
        return way == NO_WAY ? -1 : way / ONE_LENGTH;
    }

    public int about(int pass, int what) throws IndexOutOfBoundsException {
        checkPass(pass);
        switch (what) {
            case 0: return land.first(pass);
            case 1: return land.second(pass);
            case 2: return land.length(pass);
            case 3: return land.isOpen(pass) ? 1 : 0;
            case 4: return now.takersForOpen(pass);
            default: throw new IndexOutOfBoundsException("what is 0 to 4");
        }
    }

    public int told(int hut, int what) throws IndexOutOfBoundsException {
        checkHut(hut);
        switch (what) {
            case 0: return land.area(hut);
            case 1: return now.sheetsOf(hut);
            case 2: return now.wroteInAll(hut);
            case 3: return now.knownHuts(hut);
            case 4: return now.reachedHuts(hut);
            default: throw new IndexOutOfBoundsException("what is 0 to 4");
        }
    }

    public int count(int what) throws IndexOutOfBoundsException {
        switch (what) {
            case 0: return now.minute();
            case 1: return land.huts();
            case 2: return land.passes();
            case 3: return land.openPasses();
            case 4: return now.sheets();
            case 5: return now.reachedPairs();
            case 6: return land.joinedPairs(NO_PASS);
            default: throw new IndexOutOfBoundsException("what is 0 to 6");
        }
    }

    // ---- minutes and what would be

    public int go(int minutes) throws IllegalArgumentException {
        checkMinutes(minutes);
        return now.passMinutes(minutes);
    }

    public int foresee(int minutes, int what) throws IllegalArgumentException, IndexOutOfBoundsException {
        checkMinutes(minutes);
        if (what != 4 && what != 5) {
            throw new IndexOutOfBoundsException("what is 4 or 5");
        }
        later.copy(now);
        later.passMinutes(minutes);
        return what == 4 ? later.sheets() : later.reachedPairs();
    }

    public int settles() {
        // A letter goes over open passes alone, so it comes between no pair without a way in truth:
        // as many pairs are the same pairs.
        int due = land.joinedPairs(NO_PASS);
        if (now.reachedPairs() == due) {
            return 0;
        }
        later.copy(now);
        for (int minutes = 1; minutes <= MAX_SETTLING; minutes++) {
            later.passMinutes(1);
            if (later.reachedPairs() == due) {
                return minutes;
            }
        }
        return -1;
    }

    public int advise() {
        int missed = NO_PASS;
        int fewest = 0;
        for (int pass = 0; pass < land.passes(); pass++) {
            if (land.isOpen(pass)) {
                int left = land.joinedPairs(pass);
                if (missed == NO_PASS || left < fewest) {
                    missed = pass;
                    fewest = left;
                }
            }
        }
        return missed;
    }

    public double mean() {
        int sheets = now.sheets();
        if (sheets == 0) {
            return 0;
        }
        return (double) now.ages() / sheets;
    }

    public long digest() {
        long d = DIGEST_START;
        for (int what = 0; what <= 6; what++) {
            d = d * 31 + count(what);
        }
        for (int hut = 0; hut < land.huts(); hut++) {
            for (int what = 0; what <= 4; what++) {
                d = d * 31 + told(hut, what);
            }
        }
        for (int pass = 0; pass < land.passes(); pass++) {
            for (int what = 0; what <= 4; what++) {
                d = d * 31 + about(pass, what);
            }
        }
        for (int hut = 0; hut < land.huts(); hut++) {
            for (int other = 0; other < land.huts(); other++) {
                d = digestOfPair(d, hut, other);
            }
        }
        return d;
    }

    private long digestOfPair(long before, int hut, int other) {
        long d = before;
        for (int what = 0; what <= 2; what++) {
            d = d * 31 + sheet(hut, other, what);
        }
        for (int what = 0; what <= 2; what++) {
            d = d * 31 + way(hut, other, what);
        }
        return d;
    }

    private void checkHut(int hut) {
        if (hut < 0 || hut >= land.huts()) {
            throw new IndexOutOfBoundsException("no such hut");
        }
    }

    private void checkPass(int pass) {
        if (pass < 0 || pass >= land.passes()) {
            throw new IndexOutOfBoundsException("no such pass");
        }
    }

    private void checkWhat(int what, int greatest) {
        if (what < 0 || what > greatest) {
            throw new IndexOutOfBoundsException("no such what");
        }
    }

    private void checkLength(int length) {
        if (length < 1 || length > MAX_LENGTH) {
            throw new IllegalArgumentException("a length is 1 to 99");
        }
    }

    private void checkMinutes(int minutes) {
        if (minutes < 1 || minutes > MAX_MINUTES) {
            throw new IllegalArgumentException("minutes are 1 to 60");
        }
    }

    /** The huts and the passes as they are in truth. */
    private static final class Land {
        private final int[] areas = new int[MAX_HUTS];
        private final int[] firsts = new int[MAX_PASSES];
        private final int[] seconds = new int[MAX_PASSES];
        private final int[] lengths = new int[MAX_PASSES];
        private final boolean[] opens = new boolean[MAX_PASSES];
        private int huts;
        private int passes;

        int huts() {
            return huts;
        }

        int passes() {
            return passes;
        }

        int area(int hut) {
            return areas[hut];
        }

        int first(int pass) {
            return firsts[pass];
        }

        int second(int pass) {
            return seconds[pass];
        }

        int length(int pass) {
            return lengths[pass];
        }

        boolean isOpen(int pass) {
            return opens[pass];
        }

        int addHut(int area) {
            if (huts >= MAX_HUTS) {
                return -1;
            }
            areas[huts] = area;
            huts++;
            return huts - 1;
        }

        int addPass(int a, int b, int length) {
            if (passes >= MAX_PASSES) {
                return -1;
            }
            firsts[passes] = a;
            seconds[passes] = b;
            lengths[passes] = length;
            opens[passes] = true;
            passes++;
            return passes - 1;
        }

        int changeLength(int pass, int length) {
            int before = lengths[pass];
            lengths[pass] = length;
            return before;
        }

        boolean changeOpen(int pass, boolean open) {
            boolean before = opens[pass];
            opens[pass] = open;
            return before;
        }

        int openPasses() {
            int open = 0;
            for (int pass = 0; pass < passes; pass++) {
                if (opens[pass]) {
                    open++;
                }
            }
            return open;
        }

        boolean takesIn(int hut, int of) {
            return areas[hut] == 0 || areas[of] == 0 || areas[hut] == areas[of];
        }

        /** What a sheet of the hut, written now, says of the pass: its length, 0 for a pass that it does not tell. */
        int tellsNow(int hut, int pass) {
            boolean own = firsts[pass] == hut || seconds[pass] == hut;
            return own && opens[pass] ? lengths[pass] : 0;
        }

        boolean isStep(int from, int to) {
            for (int pass = 0; pass < passes; pass++) {
                boolean there = firsts[pass] == from && seconds[pass] == to;
                boolean back = firsts[pass] == to && seconds[pass] == from;
                if (opens[pass] && (there || back)) {
                    return true;
                }
            }
            return false;
        }

        void draw(Chart chart) {
            chart.clear();
            for (int pass = 0; pass < passes; pass++) {
                if (opens[pass]) {
                    chart.addStep(firsts[pass], seconds[pass], lengths[pass]);
                    chart.addStep(seconds[pass], firsts[pass], lengths[pass]);
                }
            }
        }

        /** Counts pairs of two huts, in either direction, with a way in truth that leaves out one pass. */
        int joinedPairs(int without) {
            int pairs = 0;
            int seen = 0;
            for (int hut = 0; hut < huts; hut++) {
                if ((seen >> hut & 1) == 0) {
                    int group = groupOf(hut, without);
                    int size = Integer.bitCount(group);
                    pairs += size * (size - 1);
                    seen |= group;
                }
            }
            return pairs;
        }

        private int groupOf(int hut, int without) {
            int group = 1 << hut;
            boolean grown = true;
            for (int round = 0; round < MAX_HUTS && grown; round++) {
                int before = group;
                for (int pass = 0; pass < passes; pass++) {
                    int ends = 1 << firsts[pass] | 1 << seconds[pass];
                    if (opens[pass] && pass != without && (group & ends) != 0) {
                        group |= ends;
                    }
                }
                grown = group != before;
            }
            return group;
        }
    }

    /** A sheet as it was written; it never changes, so all huts that have it have the same object. */
    private static final class Sheet {
        private final int number;
        private final int written;
        private final int[] lengths = new int[MAX_PASSES];

        Sheet(int number, int written, Land land, int hut) {
            this.number = number;
            this.written = written;
            for (int pass = 0; pass < land.passes(); pass++) {
                lengths[pass] = land.tellsNow(hut, pass);
            }
        }

        int number() {
            return number;
        }

        int age(int minute) {
            return minute - written;
        }

        int length(int pass) {
            return lengths[pass];
        }

        boolean tells(int pass) {
            return lengths[pass] > 0;
        }

        int passesTold() {
            int told = 0;
            for (int pass = 0; pass < lengths.length; pass++) {
                if (tells(pass)) {
                    told++;
                }
            }
            return told;
        }

        boolean tellsAsNow(Land land, int hut) {
            for (int pass = 0; pass < land.passes(); pass++) {
                if (lengths[pass] != land.tellsNow(hut, pass)) {
                    return false;
                }
            }
            return true;
        }
    }

    /** Single steps from hut to hut with their lengths, and the search for the best ways over them. */
    private static final class Chart {
        private final int[] froms = new int[2 * MAX_PASSES];
        private final int[] tos = new int[2 * MAX_PASSES];
        private final int[] lengths = new int[2 * MAX_PASSES];
        private int steps;

        void clear() {
            steps = 0;
        }

        void addStep(int from, int to, int length) {
            if (steps < froms.length) {
                froms[steps] = from;
                tos[steps] = to;
                lengths[steps] = length;
                steps++;
            }
        }

        /** Puts the best way from the hut to each hut into best, NO_WAY where there is none. */
        void search(int hut, int[] best) {
            for (int other = 0; other < best.length; other++) {
                best[other] = NO_WAY;
            }
            best[hut] = hut;
            boolean better = true;
            // No best way goes over a hut twice, so as many rounds as huts are enough.
            for (int round = 0; round < MAX_HUTS && better; round++) {
                better = false;
                for (int step = 0; step < steps; step++) {
                    int way = best[froms[step]];
                    if (way == NO_WAY) {
                        continue;
                    }
                    way += lengths[step] * ONE_LENGTH + ONE_PASS;
                    if (froms[step] == hut) {
                        way += tos[step] - hut;
                    }
                    if (way < best[tos[step]]) {
                        best[tos[step]] = way;
                        better = true;
                    }
                }
            }
        }
    }

    /** The sheets that all huts have at one time, and the ways that they know by them. */
    private static final class Notes {
        private final Land land;
        private final Chart chart = new Chart();
        private final int[] wrote = new int[MAX_HUTS];
        private final int[][] ways = new int[MAX_HUTS][MAX_HUTS];
        private final boolean[] waysFound = new boolean[MAX_HUTS];
        private Sheet[] held = new Sheet[MAX_HUTS * MAX_HUTS];
        private Sheet[] carried = new Sheet[MAX_HUTS * MAX_HUTS];
        private int minute;

        Notes(Land land) {
            this.land = land;
        }

        void copy(Notes other) {
            minute = other.minute;
            for (int hut = 0; hut < MAX_HUTS; hut++) {
                wrote[hut] = other.wrote[hut];
            }
            for (int slot = 0; slot < held.length; slot++) {
                held[slot] = other.held[slot];
            }
            forgetWays();
        }

        int minute() {
            return minute;
        }

        int wroteInAll(int hut) {
            return wrote[hut];
        }

        Sheet held(int hut, int of) {
            return held[slot(hut, of)];
        }

        int burnAll(int hut) {
            int burnt = sheetsOf(hut);
            for (int of = 0; of < MAX_HUTS; of++) {
                held[slot(hut, of)] = null;
            }
            forgetWays();
            return burnt;
        }

        int sheetsOf(int hut) {
            int sheets = 0;
            for (int of = 0; of < MAX_HUTS; of++) {
                if (held[slot(hut, of)] != null) {
                    sheets++;
                }
            }
            return sheets;
        }

        int sheets() {
            int sheets = 0;
            for (int hut = 0; hut < land.huts(); hut++) {
                sheets += sheetsOf(hut);
            }
            return sheets;
        }

        int ages() {
            int ages = 0;
            for (int slot = 0; slot < held.length; slot++) {
                Sheet sheet = held[slot];
                if (sheet != null) {
                    ages += sheet.age(minute);
                }
            }
            return ages;
        }

        int passMinutes(int minutes) {
            int written = 0;
            for (int gone = 0; gone < minutes; gone++) {
                written += writeSheets();
                carrySheets();
                minute++;
                throwOldAway();
            }
            forgetWays();
            return written;
        }

        private int writeSheets() {
            int written = 0;
            for (int hut = 0; hut < land.huts(); hut++) {
                if (mustWrite(hut)) {
                    wrote[hut]++;
                    held[slot(hut, hut)] = new Sheet(wrote[hut], minute, land, hut);
                    written++;
                }
            }
            return written;
        }

        private boolean mustWrite(int hut) {
            Sheet own = held[slot(hut, hut)];
            return own == null || own.age(minute) >= RENEWED_FROM_AGE || !own.tellsAsNow(land, hut);
        }

        private void carrySheets() {
            for (int slot = 0; slot < held.length; slot++) {
                carried[slot] = held[slot];
            }
            for (int pass = 0; pass < land.passes(); pass++) {
                if (land.isOpen(pass)) {
                    carry(land.first(pass), land.second(pass));
                    carry(land.second(pass), land.first(pass));
                }
            }
            Sheet[] before = held;
            held = carried;
            carried = before;
        }

        private void carry(int from, int to) {
            for (int of = 0; of < land.huts(); of++) {
                Sheet sheet = held[slot(from, of)];
                if (sheet != null && of != to && land.takesIn(to, of) && isNewer(sheet, carried[slot(to, of)])) {
                    carried[slot(to, of)] = sheet;
                }
            }
        }

        // Sheets of one hut with the same number are one sheet, equally old wherever it is: the number alone decides.
        private boolean isNewer(Sheet sheet, Sheet than) {
            return than == null || sheet.number() > than.number();
        }

        private void throwOldAway() {
            for (int slot = 0; slot < held.length; slot++) {
                Sheet sheet = held[slot];
                if (sheet != null && sheet.age(minute) > MAX_AGE) {
                    held[slot] = null;
                }
            }
        }

        private boolean takesForOpen(int hut, int pass) {
            Sheet first = held[slot(hut, land.first(pass))];
            Sheet second = held[slot(hut, land.second(pass))];
            return first != null && second != null && first.tells(pass) && second.tells(pass);
        }

        int takersForOpen(int pass) {
            int takers = 0;
            for (int hut = 0; hut < land.huts(); hut++) {
                if (takesForOpen(hut, pass)) {
                    takers++;
                }
            }
            return takers;
        }

        int knownWay(int hut, int to) {
            if (!waysFound[hut]) {
                findWays(hut);
            }
            return ways[hut][to];
        }

        private void findWays(int hut) {
            chart.clear();
            for (int pass = 0; pass < land.passes(); pass++) {
                int a = land.first(pass);
                int b = land.second(pass);
                Sheet first = held[slot(hut, a)];
                Sheet second = held[slot(hut, b)];
                if (first != null && second != null && first.tells(pass) && second.tells(pass)) {
                    chart.addStep(a, b, first.length(pass));
                    chart.addStep(b, a, second.length(pass));
                }
            }
            chart.search(hut, ways[hut]);
            waysFound[hut] = true;
        }

        private void forgetWays() {
            for (int hut = 0; hut < MAX_HUTS; hut++) {
                waysFound[hut] = false;
            }
        }

        int knownHuts(int hut) {
            int known = 0;
            for (int to = 0; to < land.huts(); to++) {
                if (knownWay(hut, to) != NO_WAY) {
                    known++;
                }
            }
            return known;
        }

        /** Over how many passes a letter comes; -1 if it is lost. */
        int letter(int from, int to) {
            int hut = from;
            for (int steps = 0; steps <= MAX_LETTER_STEPS; steps++) {
                if (hut == to) {
                    return steps;
                }
                int way = knownWay(hut, to);
                if (way == NO_WAY || !land.isStep(hut, way % ONE_PASS)) {
                    return -1;
                }
                hut = way % ONE_PASS;
            }
            return -1;
        }

        int reachedHuts(int hut) {
            int reached = 0;
            for (int to = 0; to < land.huts(); to++) {
                if (letter(hut, to) >= 0) {
                    reached++;
                }
            }
            return reached;
        }

        /** Counts pairs of two huts, in either direction, between which a letter comes. */
        int reachedPairs() {
            int pairs = 0;
            for (int from = 0; from < land.huts(); from++) {
                for (int to = 0; to < land.huts(); to++) {
                    if (from != to && letter(from, to) >= 0) {
                        pairs++;
                    }
                }
            }
            return pairs;
        }

        private static int slot(int hut, int of) {
            return hut * MAX_HUTS + of;
        }
    }
}
