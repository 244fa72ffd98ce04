import java.util.NoSuchElementException;

/** Windows over rows of numbers and signs, as ../shared/DOC.md promises them. */
public final class Windowhouse {
    private static final int WINDOWS = 8;
    private static final int ROWS = 2;
    private static final int LONGEST = 64;
    private static final int NO_MARK = -1;
    private static final char NONE = '-';
    private static final char INTS = 'i';
    private static final char LONGS = 'l';
    private static final char CHARS = 'c';
    private static final char SHORTS = 's';
    private static final long SUM_START = 7L;
    private static final long SUM_FACTOR = 31L;

    private final Window[] windows;
    private final long[][] rows;
    // isTrue lays its slice and its duplicate here, so that it makes no objects however often it is called.
    private final Window probe;
    private final Window twin;

    public Windowhouse() {
        rows = new long[ROWS][0];
        windows = new Window[WINDOWS];
        for (int i = 0; i < WINDOWS; i++) {
            windows[i] = new Window();
        }
        probe = new Window();
        twin = new Window();
    }

    // Rows

    public int make(int row, int length) throws IndexOutOfBoundsException, IllegalArgumentException {
        long[] former = rowOf(row);
        checkLength(length);
        rows[row] = new long[length];
        return former.length;
    }

    public int rowAt(int row, int place) throws IndexOutOfBoundsException {
        long[] numbers = rowOf(row);
        checkIndex(place, numbers.length);
        return (int) numbers[place];
    }

    public int rowPut(int row, int place, int value) throws IndexOutOfBoundsException {
        long[] numbers = rowOf(row);
        checkIndex(place, numbers.length);
        int former = (int) numbers[place];
        numbers[place] = value;
        return former;
    }

    // Making windows

    public boolean allocate(int window, char kind, int capacity)
            throws IndexOutOfBoundsException, IllegalArgumentException {
        Window made = slotOf(window);
        checkKind(kind);
        checkLength(capacity);
        boolean wasThere = made.isThere();
        made.layOver(kind, new long[capacity]);
        return wasThere;
    }

    public int wrap(int window, int row) throws IndexOutOfBoundsException {
        Window made = slotOf(window);
        long[] numbers = rowOf(row);
        made.layOver(INTS, numbers);
        return made.capacity;
    }

    public int slice(int window, int to) throws IndexOutOfBoundsException {
        Window source = windowOf(window);
        Window made = slotOf(to);
        made.becomeSlice(source, source.place, source.rest());
        return made.capacity;
    }

    public int sliceAt(int window, int from, int many, int to) throws IndexOutOfBoundsException {
        Window source = windowOf(window);
        checkPart(from, many, source.end);
        Window made = slotOf(to);
        made.becomeSlice(source, from, many);
        return made.capacity;
    }

    public int duplicate(int window, int to) throws IndexOutOfBoundsException {
        Window source = windowOf(window);
        Window made = slotOf(to);
        made.becomeDuplicate(source);
        return made.rest();
    }

    public int readOnly(int window, int to) throws IndexOutOfBoundsException {
        Window source = windowOf(window);
        Window made = slotOf(to);
        made.becomeDuplicate(source);
        made.onlyReads = true;
        return made.rest();
    }

    // What a window tells of itself

    public char kind(int window) throws IndexOutOfBoundsException {
        return slotOf(window).kind;
    }

    public int capacity(int window) throws IndexOutOfBoundsException {
        return windowOf(window).capacity;
    }

    public int place(int window) throws IndexOutOfBoundsException {
        return windowOf(window).place;
    }

    public int end(int window) throws IndexOutOfBoundsException {
        return windowOf(window).end;
    }

    public int left(int window) throws IndexOutOfBoundsException {
        return windowOf(window).rest();
    }

    public boolean hasLeft(int window) throws IndexOutOfBoundsException {
        return windowOf(window).rest() > 0;
    }

    public boolean isReadOnly(int window) throws IndexOutOfBoundsException {
        return windowOf(window).onlyReads;
    }

    // Place, end and mark

    public int placeAt(int window, int place) throws IndexOutOfBoundsException, IllegalArgumentException {
        Window there = windowOf(window);
        checkBound(place, there.end);
        int former = there.place;
        there.place = place;
        there.dropMarkBeyond(place);
        return former;
    }

    public int endAt(int window, int end) throws IndexOutOfBoundsException, IllegalArgumentException {
        Window there = windowOf(window);
        checkBound(end, there.capacity);
        int former = there.end;
        there.end = end;
        there.place = Math.min(there.place, end);
        there.dropMarkBeyond(end);
        return former;
    }

    public int mark(int window) throws IndexOutOfBoundsException {
        Window there = windowOf(window);
        there.mark = there.place;
        return there.place;
    }

    public int back(int window) throws IndexOutOfBoundsException, IllegalStateException {
        Window there = windowOf(window);
        if (there.mark == NO_MARK) {
            throw new IllegalStateException("there is no mark");
        }
        int former = there.place;
        there.place = there.mark;
        return former - there.place;
    }

    public int clear(int window) throws IndexOutOfBoundsException {
        Window there = windowOf(window);
        there.moveTo(0, there.capacity);
        return there.end;
    }

    public int flip(int window) throws IndexOutOfBoundsException {
        Window there = windowOf(window);
        there.moveTo(0, there.place);
        return there.end;
    }

    public int rewind(int window) throws IndexOutOfBoundsException {
        Window there = windowOf(window);
        there.moveTo(0, there.end);
        return there.rest();
    }

    public int compact(int window) throws IndexOutOfBoundsException, UnsupportedOperationException {
        Window there = windowOf(window);
        checkWritable(there);
        int many = there.rest();
        System.arraycopy(there.store, there.start + there.place, there.store, there.start, many);
        there.moveTo(many, there.capacity);
        return there.place;
    }

    // Values

    public long get(int window) throws IndexOutOfBoundsException, NoSuchElementException {
        Window there = windowOf(window);
        checkEnoughToGet(there, 1);
        return there.takeNext();
    }

    public int put(int window, long value)
            throws IndexOutOfBoundsException, UnsupportedOperationException, IllegalStateException {
        Window there = windowOf(window);
        checkWritable(there);
        checkEnoughToPut(there, 1);
        there.putNext(value);
        return there.place;
    }

    public long getAt(int window, int index) throws IndexOutOfBoundsException {
        Window there = windowOf(window);
        checkIndex(index, there.end);
        return there.valueAt(index);
    }

    public long putAt(int window, int index, long value)
            throws IndexOutOfBoundsException, UnsupportedOperationException {
        Window there = windowOf(window);
        checkIndex(index, there.end);
        checkWritable(there);
        long former = there.valueAt(index);
        there.changeAt(index, value);
        return former;
    }

    public int fill(int window, int many, long value, long step)
            throws IndexOutOfBoundsException, IllegalArgumentException, UnsupportedOperationException,
            IllegalStateException {
        Window there = windowOf(window);
        checkMany(many);
        checkWritable(there);
        checkEnoughToPut(there, many);
        long next = value;
        for (int i = 0; i < many; i++) {
            there.putNext(next);
            next += step;
        }
        return there.place;
    }

    public int pour(int window, int other, int many)
            throws IndexOutOfBoundsException, IllegalArgumentException, UnsupportedOperationException,
            NoSuchElementException, IllegalStateException {
        Window source = windowOf(window);
        Window target = windowOf(other);
        if (window == other) {
            throw new IllegalArgumentException("a window is not poured into itself");
        }
        checkMany(many);
        checkWritable(target);
        checkEnoughToGet(source, many);
        checkEnoughToPut(target, many);
        for (int i = 0; i < many; i++) {
            target.putNext(source.takeNext());
        }
        return target.place;
    }

    // Signs

    public char signAt(int window, int index)
            throws IndexOutOfBoundsException, UnsupportedOperationException, NoSuchElementException {
        Window there = windowOf(window);
        checkOfChars(there);
        if (index < 0 || index >= there.rest()) {
            throw new NoSuchElementException("there is no such sign left");
        }
        return (char) there.valueAt(there.place + index);
    }

    public int signsLeft(int window) throws IndexOutOfBoundsException, UnsupportedOperationException {
        Window there = windowOf(window);
        checkOfChars(there);
        return there.rest();
    }

    public int append(int window, char sign)
            throws IndexOutOfBoundsException, UnsupportedOperationException, IllegalStateException {
        Window there = windowOf(window);
        checkOfChars(there);
        checkWritable(there);
        checkEnoughToPut(there, 1);
        there.putNext(sign);
        return there.place;
    }

    public long text(int window) throws IndexOutOfBoundsException, UnsupportedOperationException {
        Window there = windowOf(window);
        checkOfChars(there);
        return there.sumOver(SUM_START, there.place);
    }

    // Comparing and summing up

    public boolean isAlike(int window, int other) throws IndexOutOfBoundsException {
        Window one = windowOf(window);
        Window two = windowOf(other);
        int many = one.rest();
        if (many != two.rest()) {
            return false;
        }
        for (int i = 0; i < many; i++) {
            if (one.valueAt(one.place + i) != two.valueAt(two.place + i)) {
                return false;
            }
        }
        return true;
    }

    public float fullShare(int window) throws IndexOutOfBoundsException, ArithmeticException {
        Window there = windowOf(window);
        if (there.capacity == 0) {
            throw new ArithmeticException("the window is 0 long");
        }
        return (float) there.place / (float) there.capacity;
    }

    public double meanLeft() throws ArithmeticException {
        int count = 0;
        int sum = 0;
        for (int i = 0; i < WINDOWS; i++) {
            if (windows[i].isThere()) {
                count++;
                sum += windows[i].rest();
            }
        }
        if (count == 0) {
            throw new ArithmeticException("there are no windows");
        }
        return (double) sum / (double) count;
    }

    public long checksum() {
        long sum = SUM_START;
        for (int i = 0; i < WINDOWS; i++) {
            sum = windows[i].sumOfAll(sum);
        }
        for (int row = 0; row < ROWS; row++) {
            sum = sumOfRow(sum, rows[row]);
        }
        return sum;
    }

    public boolean isTrue() {
        for (int i = 0; i < WINDOWS; i++) {
            if (windows[i].isThere() && !keepsTheorem(windows[i])) {
                return false;
            }
        }
        return true;
    }

    // Helpers of the theorem and the checksum

    private boolean keepsTheorem(Window there) {
        if (!there.isInBounds()) {
            return false;
        }
        // A slice of a window that only reads puts nothing, so there is nothing to look for.
        if (there.onlyReads) {
            return true;
        }
        int many = there.rest();
        probe.becomeSlice(there, there.place, many);
        twin.becomeDuplicate(there);
        for (int i = 0; i < many; i++) {
            if (!showsChange(there, i)) {
                return false;
            }
        }
        return true;
    }

    private boolean showsChange(Window there, int index) {
        long former = probe.valueAt(index);
        long changed = probe.cut(~former);
        probe.changeAt(index, changed);
        boolean seen = there.valueAt(there.place + index) == changed
                && twin.valueAt(twin.place + index) == changed;
        probe.changeAt(index, former);
        return seen;
    }

    private static long sumOfRow(long start, long[] numbers) {
        long sum = start;
        for (int i = 0; i < numbers.length; i++) {
            sum = summed(sum, numbers[i]);
        }
        return sum;
    }

    private static long summed(long sum, long next) {
        return SUM_FACTOR * sum + next;
    }

    // Looking up, and refusing

    private Window slotOf(int window) {
        checkIndex(window, WINDOWS);
        return windows[window];
    }

    private Window windowOf(int window) {
        Window there = slotOf(window);
        if (!there.isThere()) {
            throw new IndexOutOfBoundsException("there is no such window");
        }
        return there;
    }

    private long[] rowOf(int row) {
        checkIndex(row, ROWS);
        return rows[row];
    }

    private static void checkIndex(int index, int count) {
        if (index < 0 || index >= count) {
            throw new IndexOutOfBoundsException("the index is out of range");
        }
    }

    private static void checkPart(int from, int many, int end) {
        // from is looked at first: only then does end - from not go round.
        if (from < 0 || from > end || many < 0 || many > end - from) {
            throw new IndexOutOfBoundsException("there is no such part");
        }
    }

    private static void checkBound(int bound, int greatest) {
        if (bound < 0 || bound > greatest) {
            throw new IllegalArgumentException("it is out of range");
        }
    }

    private static void checkLength(int length) {
        if (length < 0 || length > LONGEST) {
            throw new IllegalArgumentException("the length is out of range");
        }
    }

    private static void checkKind(char kind) {
        if (kind != INTS && kind != LONGS && kind != CHARS && kind != SHORTS) {
            throw new IllegalArgumentException("there is no such kind");
        }
    }

    private static void checkMany(int many) {
        if (many < 0) {
            throw new IllegalArgumentException("it is fewer than 0");
        }
    }

    private static void checkWritable(Window there) {
        if (there.onlyReads) {
            throw new UnsupportedOperationException("the window only reads");
        }
    }

    private static void checkOfChars(Window there) {
        if (there.kind != CHARS) {
            throw new UnsupportedOperationException("the window is not of chars");
        }
    }

    private static void checkEnoughToGet(Window there, int many) {
        if (many > there.rest()) {
            throw new NoSuchElementException("not so many are left");
        }
    }

    private static void checkEnoughToPut(Window there, int many) {
        if (many > there.rest()) {
            throw new IllegalStateException("not so many are left");
        }
    }

    /**
     * A stretch of a store, with place, end and mark. A store holds the values of every kind as longs that are cut
     * already, so that windows over one store, which are all of one kind, see the same values.
     */
    private static final class Window {
        char kind;
        boolean onlyReads;
        long[] store;
        int start;
        int capacity;
        int place;
        int end;
        int mark;

        Window() {
            kind = NONE;
            store = new long[0];
            mark = NO_MARK;
        }

        boolean isThere() {
            return kind != NONE;
        }

        int rest() {
            return end - place;
        }

        boolean isInBounds() {
            return 0 <= place && place <= end && end <= capacity
                    && 0 <= start && capacity <= store.length - start;
        }

        void layOver(char newKind, long[] newStore) {
            kind = newKind;
            onlyReads = false;
            store = newStore;
            start = 0;
            capacity = newStore.length;
            moveTo(0, capacity);
        }

        void becomeSlice(Window source, int from, int many) {
            // source may be this very window: each field is read ahead of being written.
            kind = source.kind;
            onlyReads = source.onlyReads;
            store = source.store;
            start = source.start + from;
            capacity = many;
            moveTo(0, many);
        }

        void becomeDuplicate(Window source) {
            kind = source.kind;
            onlyReads = source.onlyReads;
            store = source.store;
            start = source.start;
            capacity = source.capacity;
            place = source.place;
            end = source.end;
            mark = source.mark;
        }

        void moveTo(int newPlace, int newEnd) {
            place = newPlace;
            end = newEnd;
            mark = NO_MARK;
        }

        void dropMarkBeyond(int greatest) {
            if (mark > greatest) {
                mark = NO_MARK;
            }
        }

        long valueAt(int index) {
            return store[start + index];
        }

        void changeAt(int index, long value) {
            store[start + index] = cut(value);
        }

        long takeNext() {
            long value = valueAt(place);
            place++;
            return value;
        }

        void putNext(long value) {
            changeAt(place, value);
            place++;
        }

        long cut(long value) {
            if (kind == INTS) {
                return (int) value;
            }
            if (kind == CHARS) {
                return value & 255L;
            }
            if (kind == SHORTS) {
                return (short) value;
            }
            return value;
        }

        long sumOver(long sumBefore, int from) {
            long sum = sumBefore;
            for (int i = from; i < end; i++) {
                sum = summed(sum, valueAt(i));
            }
            return sum;
        }

        long sumOfAll(long sumBefore) {
            long sum = summed(sumBefore, kind);
            if (!isThere()) {
                return sum;
            }
            sum = summed(sum, place);
            sum = summed(sum, end);
            sum = summed(sum, capacity);
            return sumOver(sum, 0);
        }
    }
}
