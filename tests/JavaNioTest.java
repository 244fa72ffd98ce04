import java.nio.Buffer;
import java.nio.BufferOverflowException;
import java.nio.BufferUnderflowException;
import java.nio.CharBuffer;
import java.nio.IntBuffer;
import java.nio.LongBuffer;
import java.nio.ReadOnlyBufferException;
import java.nio.ShortBuffer;
import java.util.NoSuchElementException;

/**
 * Drives houses beside the real buffers of java.nio, call by call, by a fixed row of numbers: each answer, each
 * exception and each state are compared.
 */
public final class JavaNioTest {
    private static final int HOUSES = 600;
    // With a sum over all behind each call, and eight calls in the end, a house is called no more than 512 times.
    private static final int CALLS = 252;
    private static final int METHODS = 39;

    private static long seed = 20261119L;
    private static int wrong = 0;

    public static void main(String[] args) {
        for (int house = 0; house < HOUSES && wrong < 10; house++) {
            drive(house);
        }
        System.out.println(wrong == 0 ? HOUSES * CALLS + " calls are as those of java.nio" : "calls differ: " + wrong);
        if (wrong != 0) {
            System.exit(1);
        }
    }

    /** A fixed row of numbers: the tests answer the same on each run. */
    private static int next(int bound) {
        seed = seed * 6364136223846793005L + 1442695040888963407L;
        return (int) ((seed >>> 33) % bound);
    }

    private static void drive(int number) {
        Windowhouse house = new Windowhouse();
        Nio nio = new Nio();
        for (int call = 0; call < CALLS; call++) {
            int[] a = arguments();
            long[] v = {value(), value()};
            String got = answerOf(() -> callOfHouse(house, a, v));
            String want = answerOf(() -> nio.call(a, v));
            if (!got.equals(want) || house.checksum() != nio.checksum()) {
                wrong++;
                System.out.println("house " + number + ", call " + call + ", method " + a[0] + " of " + a[1] + " "
                        + a[2] + " " + a[3] + " " + a[4] + ": answered " + got + ", due is " + want);
                return;
            }
        }
        if (!sameReaders(house, nio)) {
            wrong++;
            System.out.println("house " + number + ": other windows only read");
        }
    }

    private static boolean sameReaders(Windowhouse house, Nio nio) {
        for (int i = 0; i < 8; i++) {
            if (nio.windows[i] != null && nio.windows[i].isReadOnly() != house.isReadOnly(i)) {
                return false;
            }
        }
        return true;
    }

    private static int[] arguments() {
        int[] a = {next(METHODS), windowNumber(), small(), small(), windowNumber()};
        // Windows are made more often at first than they are used up, or most calls would find none.
        if (next(6) == 0) {
            a[0] = 4 + next(2);
        }
        return a;
    }

    private static int windowNumber() {
        return next(40) == 0 ? next(2) * 9 - 1 : next(5);
    }

    private static int small() {
        switch (next(24)) {
            case 0: return -1;
            case 1: return 64 + next(3);
            case 2: return Integer.MAX_VALUE - next(2);
            case 3: return Integer.MIN_VALUE + next(2);
            case 4: return next(65);
            default: return next(8);
        }
    }

    private static long value() {
        switch (next(6)) {
            case 0: return next(300);
            case 1: return -next(300);
            case 2: return 1L << next(64);
            case 3: return (1L << next(64)) - 1;
            default: return seed;
        }
    }

    private interface Answering {
        Object answer();
    }

    private static String answerOf(Answering call) {
        try {
            return String.valueOf(call.answer());
        } catch (RuntimeException e) {
            return e.getClass().getName();
        }
    }

    private static char kindOf(int number) {
        return "ilcsx-ilcsilcsilcs".charAt(Math.floorMod(number, 18));
    }

    private static int rowOf(int number) {
        return number > 3 ? number % 2 : number;
    }

    private static Object callOfHouse(Windowhouse h, int[] a, long[] v) {
        int w = a[1];
        switch (a[0]) {
            case 0: return h.make(rowOf(a[2]), a[3]);
            case 1: return h.rowAt(rowOf(a[2]), a[3]);
            case 2: return h.rowPut(rowOf(a[2]), a[3], (int) v[0]);
            case 3: return h.kind(w);
            case 4: return h.allocate(w, kindOf(a[2]), a[3]);
            case 5: return h.wrap(w, rowOf(a[2]));
            case 6: return h.capacity(w);
            case 7: return h.place(w);
            case 8: return h.end(w);
            case 9: return h.left(w);
            case 10: return h.hasLeft(w);
            case 11: return h.isReadOnly(w);
            case 12: return h.placeAt(w, a[2]);
            case 13: return h.endAt(w, a[2]);
            case 14: return h.mark(w);
            case 15: return h.back(w);
            case 16: return h.clear(w);
            case 17: return h.flip(w);
            case 18: return h.rewind(w);
            case 19: return h.compact(w);
            case 20: return h.get(w);
            case 21: return h.put(w, v[0]);
            case 22: return h.getAt(w, a[2]);
            case 23: return h.putAt(w, a[2], v[0]);
            case 24: return h.fill(w, a[2], v[0], v[1]);
            case 25: return h.pour(w, a[4], a[2]);
            case 26: return h.slice(w, a[4]);
            case 27: return h.sliceAt(w, a[2], a[3], a[4]);
            case 28: return h.duplicate(w, a[4]);
            case 29: return h.readOnly(w, a[4]);
            case 30: return h.signAt(w, a[2]);
            case 31: return h.signsLeft(w);
            case 32: return h.append(w, (char) v[0]);
            case 33: return h.text(w);
            case 34: return h.isAlike(w, a[4]);
            case 35: return h.fullShare(w);
            case 36: return h.meanLeft();
            case 37: return h.checksum();
            default: return h.isTrue();
        }
    }

    /** The same house over the real buffers. */
    private static final class Nio {
        final Buffer[] windows = new Buffer[8];
        int[][] rows = {new int[0], new int[0]};

        Object call(int[] a, long[] v) {
            int w = a[1];
            switch (a[0]) {
                case 0: return make(rowOf(a[2]), a[3]);
                case 1: return row(rowOf(a[2]), a[3])[a[3]];
                case 2: return rowPut(row(rowOf(a[2]), a[3]), a[3], (int) v[0]);
                case 3: return kind(slot(w));
                case 4: return allocate(slot(w), kindOf(a[2]), a[3]);
                case 5: return wrap(slot(w), rowOf(a[2]));
                case 6: return of(w).capacity();
                case 7: return of(w).position();
                case 8: return of(w).limit();
                case 9: return of(w).remaining();
                case 10: return of(w).hasRemaining();
                case 11: return of(w).isReadOnly();
                case 12: return placeAt(of(w), a[2]);
                case 13: return endAt(of(w), a[2]);
                case 14: return of(w).mark().position();
                case 15: return back(of(w));
                case 16: return of(w).clear().limit();
                case 17: return of(w).flip().limit();
                case 18: return of(w).rewind().remaining();
                case 19: return compact(of(w)).position();
                case 20: return get(of(w));
                case 21: return put(of(w), v[0]);
                case 22: return getAt(of(w), a[2]);
                case 23: return putAt(of(w), a[2], v[0]);
                case 24: return fill(of(w), a[2], v[0], v[1]);
                case 25: return pour(w, a[4], a[2]);
                case 26: return set(of(w).slice(), slot(a[4])).capacity();
                case 27: return set(of(w).slice(a[2], a[3]), slot(a[4])).capacity();
                case 28: return set(of(w).duplicate(), slot(a[4])).remaining();
                case 29: return set(reader(of(w)), slot(a[4])).remaining();
                case 30: return signAt(chars(of(w)), a[2]);
                case 31: return chars(of(w)).length();
                case 32: return append(chars(of(w)), (char) v[0]);
                case 33: return text(chars(of(w)).toString());
                case 34: return isAlike(of(w), of(a[4]));
                case 35: return fullShare(of(w));
                case 36: return meanLeft();
                case 37: return checksum();
                default: return true;
            }
        }

        int slot(int window) {
            if (window < 0 || window > 7) {
                throw new IndexOutOfBoundsException();
            }
            return window;
        }

        Buffer of(int window) {
            if (windows[slot(window)] == null) {
                throw new IndexOutOfBoundsException();
            }
            return windows[window];
        }

        CharBuffer chars(Buffer b) {
            if (!(b instanceof CharBuffer)) {
                throw new UnsupportedOperationException();
            }
            return (CharBuffer) b;
        }

        Buffer set(Buffer made, int window) {
            windows[window] = made;
            return made;
        }

        int[] row(int row, int place) {
            if (row < 0 || row > 1 || place < 0 || place >= rows[row].length) {
                throw new IndexOutOfBoundsException();
            }
            return rows[row];
        }

        int rowPut(int[] row, int place, int value) {
            int former = row[place];
            row[place] = value;
            return former;
        }

        int make(int row, int length) {
            if (row < 0 || row > 1) {
                throw new IndexOutOfBoundsException();
            }
            if (length < 0 || length > 64) {
                throw new IllegalArgumentException();
            }
            int former = rows[row].length;
            rows[row] = new int[length];
            return former;
        }

        char kind(int window) {
            Buffer b = windows[window];
            return b instanceof IntBuffer ? 'i' : b instanceof LongBuffer ? 'l' : b instanceof CharBuffer ? 'c'
                    : b instanceof ShortBuffer ? 's' : '-';
        }

        boolean allocate(int window, char kind, int capacity) {
            if (capacity > 64) {
                throw new IllegalArgumentException();
            }
            boolean was = windows[window] != null;
            switch (kind) {
                case 'i': windows[window] = IntBuffer.allocate(capacity); break;
                case 'l': windows[window] = LongBuffer.allocate(capacity); break;
                case 'c': windows[window] = CharBuffer.allocate(capacity); break;
                case 's': windows[window] = ShortBuffer.allocate(capacity); break;
                default: throw new IllegalArgumentException();
            }
            return was;
        }

        int wrap(int window, int row) {
            if (row < 0 || row > 1) {
                throw new IndexOutOfBoundsException();
            }
            return set(IntBuffer.wrap(rows[row]), window).capacity();
        }

        int placeAt(Buffer b, int place) {
            int former = b.position();
            b.position(place);
            return former;
        }

        int endAt(Buffer b, int end) {
            int former = b.limit();
            b.limit(end);
            return former;
        }

        int back(Buffer b) {
            int former = b.position();
            try {
                return former - b.reset().position();
            } catch (java.nio.InvalidMarkException e) {
                throw new IllegalStateException();
            }
        }

        Buffer compact(Buffer b) {
            try {
                return b instanceof IntBuffer ? ((IntBuffer) b).compact()
                        : b instanceof LongBuffer ? ((LongBuffer) b).compact()
                        : b instanceof CharBuffer ? ((CharBuffer) b).compact() : ((ShortBuffer) b).compact();
            } catch (ReadOnlyBufferException e) {
                throw new UnsupportedOperationException();
            }
        }

        Buffer reader(Buffer b) {
            return b instanceof IntBuffer ? ((IntBuffer) b).asReadOnlyBuffer()
                    : b instanceof LongBuffer ? ((LongBuffer) b).asReadOnlyBuffer()
                    : b instanceof CharBuffer ? ((CharBuffer) b).asReadOnlyBuffer()
                    : ((ShortBuffer) b).asReadOnlyBuffer();
        }

        long get(Buffer b) {
            try {
                return b instanceof IntBuffer ? ((IntBuffer) b).get() : b instanceof LongBuffer ? ((LongBuffer) b).get()
                        : b instanceof CharBuffer ? ((CharBuffer) b).get() : ((ShortBuffer) b).get();
            } catch (BufferUnderflowException e) {
                throw new NoSuchElementException();
            }
        }

        int put(Buffer b, long value) {
            try {
                if (b instanceof IntBuffer) {
                    ((IntBuffer) b).put((int) value);
                } else if (b instanceof LongBuffer) {
                    ((LongBuffer) b).put(value);
                } else if (b instanceof CharBuffer) {
                    ((CharBuffer) b).put((char) (value & 255));
                } else {
                    ((ShortBuffer) b).put((short) value);
                }
            } catch (ReadOnlyBufferException e) {
                throw new UnsupportedOperationException();
            } catch (BufferOverflowException e) {
                throw new IllegalStateException();
            }
            return b.position();
        }

        long getAt(Buffer b, int i) {
            return b instanceof IntBuffer ? ((IntBuffer) b).get(i) : b instanceof LongBuffer ? ((LongBuffer) b).get(i)
                    : b instanceof CharBuffer ? ((CharBuffer) b).get(i) : ((ShortBuffer) b).get(i);
        }

        long putAt(Buffer b, int i, long value) {
            long former = getAt(b, i);
            Buffer at = b.duplicate().clear().position(i);
            put(at, value);
            return former;
        }

        void checkPut(Buffer b, int many) {
            if (b.isReadOnly()) {
                throw new UnsupportedOperationException();
            }
            if (many > b.remaining()) {
                throw new IllegalStateException();
            }
        }

        int fill(Buffer b, int many, long value, long step) {
            if (many < 0) {
                throw new IllegalArgumentException();
            }
            checkPut(b, many);
            for (int i = 0; i < many; i++) {
                put(b, value + i * step);
            }
            return b.position();
        }

        int pour(int window, int other, int many) {
            Buffer from = of(window);
            Buffer to = of(other);
            if (window == other || many < 0) {
                throw new IllegalArgumentException();
            }
            checkPut(to, 0);
            if (many > from.remaining()) {
                throw new NoSuchElementException();
            }
            checkPut(to, many);
            for (int i = 0; i < many; i++) {
                put(to, get(from));
            }
            return to.position();
        }

        char signAt(CharBuffer b, int index) {
            try {
                return b.charAt(index);
            } catch (IndexOutOfBoundsException e) {
                throw new NoSuchElementException();
            }
        }

        int append(CharBuffer b, char sign) {
            try {
                return b.append((char) (sign & 255)).position();
            } catch (ReadOnlyBufferException e) {
                throw new UnsupportedOperationException();
            } catch (BufferOverflowException e) {
                throw new IllegalStateException();
            }
        }

        long text(String signs) {
            long sum = 7;
            for (int i = 0; i < signs.length(); i++) {
                sum = 31 * sum + signs.charAt(i);
            }
            return sum;
        }

        boolean isAlike(Buffer one, Buffer two) {
            if (one.remaining() != two.remaining()) {
                return false;
            }
            for (int i = 0; i < one.remaining(); i++) {
                if (getAt(one, one.position() + i) != getAt(two, two.position() + i)) {
                    return false;
                }
            }
            return true;
        }

        float fullShare(Buffer b) {
            if (b.capacity() == 0) {
                throw new ArithmeticException();
            }
            return (float) b.position() / b.capacity();
        }

        double meanLeft() {
            double sum = 0;
            int count = 0;
            for (Buffer b : windows) {
                sum += b == null ? 0 : b.remaining();
                count += b == null ? 0 : 1;
            }
            if (count == 0) {
                throw new ArithmeticException();
            }
            return sum / count;
        }

        long checksum() {
            long sum = 7;
            for (int i = 0; i < 8; i++) {
                sum = 31 * sum + kind(i);
                if (windows[i] != null) {
                    Buffer b = windows[i];
                    sum = 31 * (31 * (31 * sum + b.position()) + b.limit()) + b.capacity();
                    for (int at = 0; at < b.limit(); at++) {
                        sum = 31 * sum + getAt(b, at);
                    }
                }
            }
            for (int[] row : rows) {
                for (int number : row) {
                    sum = 31 * sum + number;
                }
            }
            return sum;
        }
    }
}
