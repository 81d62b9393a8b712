/** Regions of black and white, told and read back as T.88 has it, or by fax. */
public final class GenericRegions {
    public static final int NONE = -1, OPEN = 65536, FAX = 65537;

    private static final int LARGEST_SIDE = 24;
    private static final int LAST_TEMPLATE = 3;
    private static final int MOST_BITS = 6000;
    private static final int FARTHEST = 8;

    private final int width;
    private final int height;
    private final int template;
    private final Plane ink;
    private final Plane skips;
    private final Places places;
    private final Ways ways;
    private final Tape tape;
    private final Teller teller;
    private final Inflow inflow;
    private final Reader reader;
    private int passed;

    public GenericRegions(int width, int height, int template) {
        this.width = nearest(width, 1, LARGEST_SIDE);
        this.height = nearest(height, 1, LARGEST_SIDE);
        this.template = nearest(template, 0, LAST_TEMPLATE);
        ink = new Plane(this.width, this.height);
        skips = new Plane(this.width, this.height);
        places = new Places(this.template);
        ways = new Ways();
        tape = new Tape(mostTold(this.width, this.height));
        teller = new Teller(ink, skips, places, ways, tape);
        inflow = new Inflow();
        reader = new Reader(this.width, this.height, skips, ways, inflow);
    }

    public boolean put(int x, int y, boolean black) throws IndexOutOfBoundsException {
        checkSample(x, y);
        return ink.change(x, y, black);
    }

    public int row(int y, int bits) throws IndexOutOfBoundsException {
        checkRow(y);
        ink.setMask(y, bits);
        return Integer.bitCount(ink.mask(y));
    }

    public boolean at(int x, int y) throws IndexOutOfBoundsException {
        checkSample(x, y);
        return ink.has(x, y);
    }

    public boolean skip(int x, int y, boolean on) throws IndexOutOfBoundsException {
        checkSample(x, y);
        boolean changed = skips.change(x, y, on);
        reader.restart();
        return changed;
    }

    public boolean loose(int k, int dx, int dy) throws IndexOutOfBoundsException, IllegalArgumentException {
        if (k < 0 || k >= places.looseCount()) {
            throw new IndexOutOfBoundsException("no such loose place");
        }
        if (!mayBeAt(dx, dy)) {
            throw new IllegalArgumentException("a loose place may not be there");
        }
        boolean moved = places.move(k, dx, dy);
        reader.restart();
        return moved;
    }

    public boolean way(int kind, boolean on) throws IllegalArgumentException {
        if (kind < 0 || kind > 2) {
            throw new IllegalArgumentException("no such way");
        }
        boolean changed = ways.change(kind, on);
        reader.restart();
        return changed;
    }

    public int context(int x, int y) throws IndexOutOfBoundsException {
        checkSample(x, y);
        teller.look();
        return teller.contextOf(x, y);
    }

    public int tell() {
        passed = 0;
        teller.tellAll();
        return tape.count();
    }

    public int bit(int i, int what) throws IndexOutOfBoundsException, IllegalArgumentException {
        if (i < 0 || i >= tape.count()) {
            throw new IndexOutOfBoundsException("no such bit");
        }
        if (what < 0 || what > 2) {
            throw new IllegalArgumentException("nothing of a bit has this number");
        }
        if (what == 0) {
            return tape.bitAt(i);
        }
        return what == 1 ? tape.contextAt(i) : tape.rowAt(i);
    }

    public int copies() {
        return teller.copyCount();
    }

    public int feed(int bit) throws IllegalArgumentException, UnsupportedOperationException {
        if (bit != 0 && bit != 1) {
            throw new IllegalArgumentException("a bit is 0 or 1");
        }
        checkRoom(1);
        inflow.add(bit);
        return inflow.count();
    }

    public int pass(int many) throws IllegalArgumentException, UnsupportedOperationException {
        if (many < 0) {
            throw new IllegalArgumentException("fewer bits than none");
        }
        int coming = Math.min(many, tape.count() - passed);
        checkRoom(coming);
        for (int i = 0; i < coming; i++) {
            inflow.add(tape.bitAt(passed + i));
        }
        passed += coming;
        return coming;
    }

    public int read() {
        return reader.readOn();
    }

    public boolean got(int x, int y) throws IndexOutOfBoundsException {
        checkSample(x, y);
        return reader.isBlack(x, y);
    }

    public int begin() {
        int came = inflow.count();
        inflow.wipe();
        passed = 0;
        reader.restart();
        return came;
    }

    public int told(int what) {
        switch (what) {
            case 0: return width;
            case 1: return height;
            case 2: return template;
            case 3: return places.looseCount();
            case 4: return tape.count();
            case 5: return inflow.count();
            case 6: return reader.bitsRead();
            case 7: return reader.rowsRead();
            case 8: return reader.hasEnded() ? 1 : 0;
            default: return NONE;
        }
    }

    public void clear() {
        ink.wipe();
        skips.wipe();
        places.reset();
        ways.reset();
        teller.forget();
        begin();
    }

    private static int nearest(int number, int least, int most) {
        return Math.max(least, Math.min(most, number));
    }

    // No fax step costs more than 7 bits for each sample that it goes on (from -1 to the
    // width); a row told by samples is shorter, and two bits may stand before each row.
    private static int mostTold(int width, int height) {
        return height * (7 * (width + 1) + 2) + 1;
    }

    private static boolean mayBeAt(int dx, int dy) {
        int farthestRight = dy == 0 ? -1 : FARTHEST;
        return dy >= -FARTHEST && dy <= 0 && dx >= -FARTHEST && dx <= farthestRight;
    }

    private void checkSample(int x, int y) {
        if (x < 0 || x >= width || y < 0 || y >= height) {
            throw new IndexOutOfBoundsException("no such sample");
        }
    }

    private void checkRow(int y) {
        if (y < 0 || y >= height) {
            throw new IndexOutOfBoundsException("no such row");
        }
    }

    private void checkRoom(int many) {
        if (!inflow.hasRoomFor(many)) {
            throw new UnsupportedOperationException("more bits than may come");
        }
    }

    /** Samples of yes or no, a row an int, its lowest bit leftmost; outside all is no. */
    private static final class Plane {
        private final int width;
        private final int[] rows;

        Plane(int width, int height) {
            this.width = width;
            rows = new int[Math.max(height, 0)];
        }

        int width() {
            return width;
        }

        int height() {
            return rows.length;
        }

        int mask(int y) {
            return y >= 0 && y < rows.length ? rows[y] : 0;
        }

        void setMask(int y, int bits) {
            if (y >= 0 && y < rows.length) {
                rows[y] = bits & ((1 << width) - 1);
            }
        }

        boolean has(int x, int y) {
            return x >= 0 && x < width && (mask(y) >>> x & 1) != 0;
        }

        boolean change(int x, int y, boolean on) {
            boolean changed = has(x, y) != on;
            if (changed) {
                setMask(y, mask(y) ^ 1 << x);
            }
            return changed;
        }

        void wipe() {
            for (int y = 0; y < rows.length; y++) {
                rows[y] = 0;
            }
        }
    }

    /** In what ways the region is told and read. */
    private static final class Ways {
        private boolean typical;
        private boolean byFax;
        private boolean open;

        boolean change(int kind, boolean on) {
            boolean before;
            if (kind == 0) {
                before = typical;
                typical = on;
            } else if (kind == 1) {
                before = byFax;
                byFax = on;
            } else {
                before = open;
                open = on;
            }
            return before != on;
        }

        void reset() {
            typical = false;
            byFax = false;
            open = false;
        }

        boolean typical() {
            return typical;
        }

        boolean byFax() {
            return byFax;
        }

        boolean open() {
            return open;
        }
    }

    /** The places of a template: of each, how far right and how far down. */
    private static final class Places {
        private static final int[] FIRST_0 = {
            -1, 0, -2, 0, -3, 0, -4, 0, 3, -1, 2, -1, 1, -1, 0, -1,
            -1, -1, -2, -1, -3, -1, 2, -2, 1, -2, 0, -2, -1, -2, -2, -2};
        private static final int[] FIRST_1 = {
            -1, 0, -2, 0, -3, 0, 3, -1, 2, -1, 1, -1, 0, -1, -1, -1, -2, -1,
            2, -2, 1, -2, 0, -2, -1, -2};
        private static final int[] FIRST_2 = {
            -1, 0, -2, 0, 2, -1, 1, -1, 0, -1, -1, -1, -2, -1, 1, -2, 0, -2, -1, -2};
        private static final int[] FIRST_3 = {
            -1, 0, -2, 0, -3, 0, -4, 0, 2, -1, 1, -1, 0, -1, -1, -1, -2, -1, -3, -1};
        private static final int[] LOOSE_0 = {4, 10, 11, 15};
        private static final int[] LOOSE_1 = {3};
        private static final int[] LOOSE_2 = {2};
        private static final int[] LOOSE_3 = {4};
        private static final int[] TYPICAL_CONTEXTS = {39717, 1941, 229, 405};

        private final int template;
        private final int[] first;
        private final int[] now;
        private final int[] loosePlaces;

        Places(int template) {
            this.template = template;
            first = firstOf(template);
            now = first.clone();
            loosePlaces = looseOf(template);
        }

        private static int[] firstOf(int template) {
            switch (template) {
                case 0: return FIRST_0;
                case 1: return FIRST_1;
                case 2: return FIRST_2;
                default: return FIRST_3;
            }
        }

        private static int[] looseOf(int template) {
            switch (template) {
                case 0: return LOOSE_0;
                case 1: return LOOSE_1;
                case 2: return LOOSE_2;
                default: return LOOSE_3;
            }
        }

        int typicalContext() {
            return template >= 0 && template < TYPICAL_CONTEXTS.length ? TYPICAL_CONTEXTS[template] : 0;
        }

        int looseCount() {
            return loosePlaces.length;
        }

        boolean move(int k, int dx, int dy) {
            int i = k >= 0 && k < loosePlaces.length ? 2 * loosePlaces[k] : 0;
            if (i + 1 >= now.length || now[i] == dx && now[i + 1] == dy) {
                return false;
            }
            now[i] = dx;
            now[i + 1] = dy;
            return true;
        }

        void reset() {
            for (int i = 0; i < now.length && i < first.length; i++) {
                now[i] = first[i];
            }
        }

        int contextIn(Plane plane, int x, int y) {
            int number = 0;
            for (int i = 0; i + 1 < now.length; i += 2) {
                if (plane.has(x + now[i], y + now[i + 1])) {
                    number |= 1 << (i >> 1);
                }
            }
            return number;
        }
    }

    /** The bits told last, each with its context and row in one int: a new object stays small. */
    private static final class Tape {
        private static final int ROW_SHIFT = 18;
        private static final int CONTEXT_MASK = (1 << 17) - 1;

        private final int[] entries;
        private int count;

        Tape(int room) {
            entries = new int[Math.max(room, 0)];
        }

        int count() {
            return count;
        }

        void wipe() {
            count = 0;
        }

        void add(int bit, int context, int y) {
            if (count >= 0 && count < entries.length) {
                entries[count] = y << ROW_SHIFT | context << 1 | bit;
                count++;
            }
        }

        void addByFax(int digits, int length, int y) {
            for (int i = length - 1; i >= 0; i--) {
                add(digits >>> i & 1, FAX, y);
            }
        }

        int bitAt(int i) {
            return entryAt(i) & 1;
        }

        int contextAt(int i) {
            return entryAt(i) >>> 1 & CONTEXT_MASK;
        }

        int rowAt(int i) {
            return entryAt(i) >>> ROW_SHIFT;
        }

        private int entryAt(int i) {
            return i >= 0 && i < entries.length ? entries[i] : 0;
        }
    }

    /** The bits that came, 32 in an int, and which of them is to be read next. */
    private static final class Inflow {
        private final int[] words = new int[(MOST_BITS + 31) / 32];
        private int count;
        private int next;

        int count() {
            return count;
        }

        void wipe() {
            count = 0;
        }

        boolean hasRoomFor(int many) {
            return many <= MOST_BITS - count;
        }

        void add(int bit) {
            int i = count >> 5;
            if (i >= 0 && i < words.length) {
                int place = 1 << (count & 31);
                words[i] = bit == 1 ? words[i] | place : words[i] & ~place;
                count++;
            }
        }

        void goTo(int i) {
            next = i;
        }

        int place() {
            return next;
        }

        /** The next bit, or NONE if it did not come yet. */
        int take() {
            int i = next >> 5;
            if (next >= count || i < 0 || i >= words.length) {
                return NONE;
            }
            int bit = words[i] >>> (next & 31) & 1;
            next++;
            return bit;
        }
    }

    /** How far a row by fax has come, against the one above: so for telling as for reading. */
    private static final class FaxLine {
        private static final int[] NEAR_DIGITS = {2, 2, 2, 1, 3, 3, 3};
        private static final int[] NEAR_LENGTHS = {7, 6, 3, 1, 3, 6, 7};
        private static final int PASS_DIGITS = 1;
        private static final int PASS_LENGTH = 4;
        private static final int RUNS_DIGITS = 1;
        private static final int RUNS_LENGTH = 3;
        private static final int LONGEST = 7;
        private static final int NEAREST = 3;

        private final int width;
        private int above;
        private int place;
        private boolean black;

        FaxLine(int width) {
            this.width = width;
        }

        void start(int rowAbove) {
            above = rowAbove;
            place = -1;
            black = false;
        }

        boolean hasEnded() {
            return place >= width;
        }

        int place() {
            return place;
        }

        boolean black() {
            return black;
        }

        void goTo(int x) {
            place = x;
        }

        void turnAt(int x) {
            place = x;
            black = !black;
        }

        int firstRightOf(int from, int row, boolean colour) {
            for (int x = from + 1; x < width; x++) {
                if (isBlack(row, x) == colour) {
                    return x;
                }
            }
            return width;
        }

        int b1() {
            for (int x = place + 1; x < width; x++) {
                if (isBlack(above, x) != black && isBlack(above, x - 1) == black) {
                    return x;
                }
            }
            return width;
        }

        int b2(int b1) {
            return firstRightOf(b1, above, black);
        }

        private static boolean isBlack(int row, int x) {
            return x >= 0 && (row >>> x & 1) != 0;
        }
    }

    /** Tells the region onto the tape. */
    private static final class Teller {
        private final Plane ink;
        private final Plane skips;
        private final Plane seen;
        private final Places places;
        private final Ways ways;
        private final Tape tape;
        private final FaxLine line;
        private int copyCount;

        Teller(Plane ink, Plane skips, Places places, Ways ways, Tape tape) {
            this.ink = ink;
            this.skips = skips;
            this.places = places;
            this.ways = ways;
            this.tape = tape;
            seen = new Plane(ink.width(), ink.height());
            line = new FaxLine(ink.width());
        }

        int copyCount() {
            return copyCount;
        }

        void forget() {
            copyCount = 0;
            tape.wipe();
        }

        /** Takes the samples as they are told: white where they are skipped, but not by fax. */
        void look() {
            for (int y = 0; y < seen.height(); y++) {
                int hidden = ways.byFax() ? 0 : skips.mask(y);
                seen.setMask(y, ink.mask(y) & ~hidden);
            }
        }

        int contextOf(int x, int y) {
            return places.contextIn(seen, x, y);
        }

        void tellAll() {
            forget();
            look();
            boolean copyBefore = false;
            for (int y = 0; y < seen.height(); y++) {
                if (ways.open()) {
                    tape.add(0, OPEN, y);
                }
                if (ways.byFax()) {
                    tellByFax(y);
                } else {
                    copyBefore = tellBySamples(y, copyBefore);
                }
            }
            if (ways.open()) {
                tape.add(1, OPEN, seen.height());
            }
        }

        private boolean tellBySamples(int y, boolean copyBefore) {
            boolean copy = ways.typical() && seen.mask(y) == seen.mask(y - 1);
            if (ways.typical()) {
                tape.add(copy != copyBefore ? 1 : 0, places.typicalContext(), y);
            }
            if (copy) {
                copyCount++;
            } else {
                tellSamples(y);
            }
            return copy;
        }

        private void tellSamples(int y) {
            for (int x = 0; x < seen.width(); x++) {
                if (!skips.has(x, y)) {
                    tape.add(seen.has(x, y) ? 1 : 0, places.contextIn(seen, x, y), y);
                }
            }
        }

        private void tellByFax(int y) {
            line.start(seen.mask(y - 1));
            // each step goes on by one sample or more, from -1 to the width
            for (int step = 0; step <= seen.width() && !line.hasEnded(); step++) {
                tellStep(y);
            }
        }

        private void tellStep(int y) {
            int b1 = line.b1();
            int b2 = line.b2(b1);
            int a1 = line.firstRightOf(line.place(), seen.mask(y), !line.black());
            int i = a1 - b1 + FaxLine.NEAREST;
            if (b2 < a1) {
                tape.addByFax(FaxLine.PASS_DIGITS, FaxLine.PASS_LENGTH, y);
                line.goTo(b2);
            } else if (i >= 0 && i < FaxLine.NEAR_DIGITS.length && i < FaxLine.NEAR_LENGTHS.length) {
                tape.addByFax(FaxLine.NEAR_DIGITS[i], FaxLine.NEAR_LENGTHS[i], y);
                line.turnAt(a1);
            } else {
                tellRuns(a1, y);
            }
        }

        private void tellRuns(int a1, int y) {
            int a2 = line.firstRightOf(a1, seen.mask(y), line.black());
            tape.addByFax(FaxLine.RUNS_DIGITS, FaxLine.RUNS_LENGTH, y);
            int first = a1 - Math.max(line.place(), 0);
            tape.addByFax(first + 1, numberLength(first), y);
            int second = a2 - a1;
            tape.addByFax(second + 1, numberLength(second), y);
            line.goTo(a2);
        }

        private static int numberLength(int n) {
            int digits = 32 - Integer.numberOfLeadingZeros(n + 1);
            return 2 * digits - 1;
        }
    }

    /** Reads rows of the bits that came; a row counts only when it is whole. */
    private static final class Reader {
        private static final int NO_CODE = 0;
        private static final int BAD_PLACE = 1;
        private static final int BAD_NUMBER = 2;
        private static final int ROW_TOO_MANY = 3;
        private static final int MOST_ZEROS = 4;
        // beside these a step is how far A1 is from B1
        private static final int PASS_STEP = 10;
        private static final int RUNS_STEP = 11;
        private static final int NO_STEP = 12;

        private final int width;
        private final int height;
        private final Plane skips;
        private final Ways ways;
        private final Inflow inflow;
        private final Plane samples;
        private final FaxLine line;
        private int bitsRead;
        private int rowsRead;
        private boolean copyBefore;
        private boolean ended;
        private int refusal = NONE;
        private int current;
        private boolean currentIsCopy;

        Reader(int width, int height, Plane skips, Ways ways, Inflow inflow) {
            this.width = width;
            this.height = height;
            this.skips = skips;
            this.ways = ways;
            this.inflow = inflow;
            samples = new Plane(width, height);
            line = new FaxLine(width);
        }

        void restart() {
            samples.wipe();
            bitsRead = 0;
            rowsRead = 0;
            copyBefore = false;
            ended = false;
            refusal = NONE;
        }

        int bitsRead() {
            return bitsRead;
        }

        int rowsRead() {
            return rowsRead;
        }

        boolean hasEnded() {
            return ended;
        }

        boolean isBlack(int x, int y) {
            return samples.has(x, y);
        }

        int readOn() {
            boolean goesOn = true;
            // one turn more than rows: the bit behind the last row of an open region
            for (int turn = 0; turn <= height && goesOn; turn++) {
                goesOn = !ended && refusal == NONE && startRow()
                    && (ways.byFax() ? readByFax() : readBySamples());
                if (goesOn) {
                    keepRow();
                }
            }
            return refusal == NONE ? rowsRead : NONE - refusal;
        }

        private boolean startRow() {
            inflow.goTo(bitsRead);
            current = 0;
            currentIsCopy = false;
            return !ways.open() || readOpening();
        }

        private boolean readOpening() {
            int bit = inflow.take();
            if (bit == 1) {
                ended = true;
                bitsRead = inflow.place();
            } else if (bit == 0 && rowsRead >= height) {
                refusal = ROW_TOO_MANY;
            }
            return bit == 0 && refusal == NONE;
        }

        private void keepRow() {
            samples.setMask(rowsRead, current);
            rowsRead++;
            bitsRead = inflow.place();
            copyBefore = currentIsCopy;
            ended = !ways.open() && rowsRead >= height;
        }

        private boolean readBySamples() {
            if (ways.typical()) {
                int bit = inflow.take();
                if (bit == NONE) {
                    return false;
                }
                currentIsCopy = copyBefore != (bit == 1);
            }
            if (currentIsCopy) {
                current = samples.mask(rowsRead - 1);
                return true;
            }
            return readSamples();
        }

        private boolean readSamples() {
            for (int x = 0; x < width; x++) {
                if (!skips.has(x, rowsRead)) {
                    int bit = inflow.take();
                    if (bit == NONE) {
                        return false;
                    }
                    current |= bit << x;
                }
            }
            return true;
        }

        private boolean readByFax() {
            line.start(samples.mask(rowsRead - 1));
            boolean goesOn = true;
            // each step goes on by one sample or more, from -1 to the width
            for (int step = 0; step <= width && goesOn && !line.hasEnded(); step++) {
                goesOn = readStep();
            }
            return goesOn && line.hasEnded();
        }

        private boolean readStep() {
            int step = nextStep();
            if (step == NO_STEP) {
                return false;
            }
            if (step == RUNS_STEP) {
                return readRuns();
            }
            int b1 = line.b1();
            return step == PASS_STEP ? passBelow(line.b2(b1)) : turnNear(b1 + step);
        }

        private int nextStep() {
            int digits = 0;
            for (int length = 1; length <= FaxLine.LONGEST; length++) {
                int bit = inflow.take();
                if (bit == NONE) {
                    return NO_STEP;
                }
                digits = digits << 1 | bit;
                int step = stepOf(digits, length);
                if (step != NO_STEP) {
                    return step;
                }
            }
            refusal = NO_CODE;
            return NO_STEP;
        }

        private static int stepOf(int digits, int length) {
            if (digits == FaxLine.PASS_DIGITS && length == FaxLine.PASS_LENGTH) {
                return PASS_STEP;
            }
            if (digits == FaxLine.RUNS_DIGITS && length == FaxLine.RUNS_LENGTH) {
                return RUNS_STEP;
            }
            for (int i = 0; i < FaxLine.NEAR_DIGITS.length && i < FaxLine.NEAR_LENGTHS.length; i++) {
                if (digits == FaxLine.NEAR_DIGITS[i] && length == FaxLine.NEAR_LENGTHS[i]) {
                    return i - FaxLine.NEAREST;
                }
            }
            return NO_STEP;
        }

        private boolean passBelow(int b2) {
            if (b2 <= line.place() || b2 >= width) {
                refusal = BAD_PLACE;
                return false;
            }
            paint(line.place(), b2, line.black());
            line.goTo(b2);
            return true;
        }

        private boolean turnNear(int a1) {
            if (a1 <= line.place() || a1 > width) {
                refusal = BAD_PLACE;
                return false;
            }
            paint(line.place(), a1, line.black());
            line.turnAt(a1);
            return true;
        }

        private boolean readRuns() {
            int first = readNumber();
            int second = first == NONE ? NONE : readNumber();
            if (second == NONE) {
                return false;
            }
            int from = Math.max(line.place(), 0);
            int a1 = from + first;
            int a2 = a1 + second;
            if (a2 > width || a2 <= line.place()) {
                refusal = BAD_NUMBER;
                return false;
            }
            paint(from, a1, line.black());
            paint(a1, a2, !line.black());
            line.goTo(a2);
            return true;
        }

        /** A number, or NONE if bits lack or it is refused. */
        private int readNumber() {
            int zeros = 0;
            int bit = inflow.take();
            while (bit == 0 && zeros < MOST_ZEROS) {
                zeros++;
                bit = inflow.take();
            }
            if (bit == 0) {
                refusal = BAD_NUMBER;
            }
            int digits = bit;
            for (int i = 0; i < zeros && digits > 0; i++) {
                bit = inflow.take();
                digits = bit == NONE ? NONE : digits << 1 | bit;
            }
            return digits > 0 ? digits - 1 : NONE;
        }

        private void paint(int from, int to, boolean black) {
            for (int x = Math.max(from, 0); x < to && black; x++) {
                current |= 1 << x;
            }
        }
    }
}
