import java.math.BigInteger;

/** The edges of promises 36 to 40, a sentence of the document at a time. */
public final class SumsEdgesTest {
    private static final int NONE = Houses.NONE;
    private static final char[] KINDS = {'i', 'l', 'c', 's'};

    private static final Checks checks = new Checks();

    public static void main(String[] args) {
        isAlike();
        isAlikeAsMany();
        isAlikeOfAnyKind();
        isAlikeAsLongs();
        fullShare();
        fullShareRefuses();
        meanLeft();
        meanLeftRefuses();
        checksum();
        checksumOfWindows();
        checksumOfRows();
        checksumGoesRound();
        isTrue();
        isTrueLaysBack();
        checks.finish();
    }

    private static Checks.Plan at(int mark, int place, int end) {
        return Houses.one('i', mark, place, end, 10, 11, 12, 13, 14, 15);
    }

    /** Window 0, and window 1 of that kind over those values, all of which are left. */
    private static Checks.Plan beside(Checks.Plan plan, char kind, long... values) {
        return Houses.then(plan, house -> {
            Houses.lay(house, 1, kind, values);
            return house;
        });
    }

    private static void isAlike() {
        String thrown = "Throws IndexOutOfBoundsException if there is no such window, for either";
        checks.windows(36, thrown, (house, window) -> house.isAlike(window, 7 - window), false, false);
        checks.noWindows(36, thrown, (house, window) -> house.isAlike(window, 7));
        checks.noWindows(36, thrown, (house, window) -> house.isAlike(7, window));
        checks.noWindows(36, thrown, (house, window) -> house.isAlike(window, window));
        checks.sentence("36: Tells whether two windows have the same values left, as longs.");
        checks.tells("what is left alone", beside(at(1, 2, 4), 'i', 12, 13), house -> house.isAlike(0, 1), true);
        checks.tells("the other way", beside(at(1, 2, 4), 'i', 12, 13), house -> house.isAlike(1, 0), true);
        checks.tells("the first is another", beside(at(1, 2, 4), 'i', 11, 13), house -> house.isAlike(0, 1), false);
        checks.tells("the last is another", beside(at(1, 2, 4), 'i', 12, 14), house -> house.isAlike(0, 1), false);
        checks.tells("in another order", beside(at(1, 2, 4), 'i', 13, 12), house -> house.isAlike(0, 1), false);
        checks.tells("a reader", beside(Houses.reader(at(1, 2, 4)), 'i', 12, 13), house -> house.isAlike(0, 1), true);
        checks.tells("with itself", at(1, 2, 4), house -> house.isAlike(0, 0), true);
        checks.tells("with itself, nothing left", at(1, 4, 4), house -> house.isAlike(0, 0), true);
    }

    private static void isAlikeAsMany() {
        checks.sentence("36: Returns whether they are as many, and alike.");
        checks.tells("one more", beside(at(1, 2, 4), 'i', 12, 13, 14), house -> house.isAlike(0, 1), false);
        checks.tells("one fewer", beside(at(1, 2, 4), 'i', 12), house -> house.isAlike(0, 1), false);
        checks.tells("one against none", beside(at(1, 3, 4), 'i'), house -> house.isAlike(0, 1), false);
        checks.tells("none against one", beside(at(1, 4, 4), 'i', 14), house -> house.isAlike(0, 1), false);
        checks.tells("none against none", beside(at(1, 4, 4), 'i'), house -> house.isAlike(0, 1), true);
        checks.tells("one against one", beside(at(1, 3, 4), 'i', 13), house -> house.isAlike(0, 1), true);
        Windowhouse house = Houses.counted('c', 64, NONE, 0, 64).house();
        house.allocate(1, 'l', 64);
        house.fill(1, 64, 1, 1);
        house.clear(1);
        checks.due("64 against 64", house.isAlike(0, 1), true);
        house.putAt(1, 63, 0);
        checks.due("the last of 64 is another", house.isAlike(0, 1), false);
        house.endAt(0, 63);
        checks.due("63 against 64", house.isAlike(0, 1), false);
        house.endAt(1, 63);
        checks.due("63 against 63", house.isAlike(0, 1), true);
    }

    private static void isAlikeOfAnyKind() {
        checks.sentence("36: other: another one, of any kind");
        for (char one : KINDS) {
            for (char other : KINDS) {
                checks.tells(one + " with " + other, beside(Houses.one(one, NONE, 0, 3, 0, 1, 127), other, 0, 1, 127),
                        house -> house.isAlike(0, 1), true);
                checks.tells("nothing, " + one + " with " + other, beside(Houses.empty(one), other),
                        house -> house.isAlike(0, 1), true);
            }
        }
    }

    private static void isAlikeAsLongs() {
        checks.sentence("36: Tells whether two windows have the same values left, as longs.");
        checks.tells("a char 255 is no -1", beside(Houses.one('c', NONE, 0, 1, 255), 's', -1),
                house -> house.isAlike(0, 1), false);
        checks.tells("a char 255 is 255", beside(Houses.one('c', NONE, 0, 1, -1), 's', 255),
                house -> house.isAlike(0, 1), true);
        checks.tells("an int -1 is a long -1", beside(Houses.one('i', NONE, 0, 1, -1), 'l', -1),
                house -> house.isAlike(0, 1), true);
        checks.tells("an int 0 is no long of 2 to the 32nd", beside(Houses.one('i', NONE, 0, 1, 0), 'l', 1L << 32),
                house -> house.isAlike(0, 1), false);
        checks.tells("a short 0 is no int of 2 to the 16th", beside(Houses.one('s', NONE, 0, 1, 0), 'i', 65536),
                house -> house.isAlike(0, 1), false);
        checks.tells("longs that differ in the highest bit", beside(Houses.one('l', NONE, 0, 1, 0), 'l', Long.MIN_VALUE),
                house -> house.isAlike(0, 1), false);
    }

    private static void fullShare() {
        checks.windows(37, "Throws IndexOutOfBoundsException if there is no such window", Windowhouse::fullShare,
                2.0f / 6.0f, 0.5f);
        checks.sentence("37: Returns the share of a window that is ahead of its place.");
        checks.tells("of a reader", Houses.reader(at(1, 3, 4)), house -> house.fullShare(0), 0.5f);
        checks.tells("of how long it is, not of its end", at(1, 4, 4), house -> house.fullShare(0), 4.0f / 6.0f);
        checks.tells("none", at(NONE, 0, 6), house -> house.fullShare(0), 0.0f);
        checks.tells("none with an end of 0", at(NONE, 0, 0), house -> house.fullShare(0), 0.0f);
        checks.tells("all", at(NONE, 6, 6), house -> house.fullShare(0), 1.0f);
        checks.sentence("37: Returns the place divided by how long it is, both converted to float.");
        Windowhouse house = Houses.counted('s', 64, NONE, 0, 64).house();
        for (int place = 0; place <= 64; place++) {
            house.placeAt(0, place);
            checks.due(place + " of 64", house.fullShare(0), (float) place / 64.0f);
        }
        for (int capacity : new int[] {1, 3, 7, 63}) {
            Windowhouse other = Houses.empty('c').house();
            other.allocate(0, 'c', capacity);
            for (int place = 0; place <= capacity; place++) {
                other.placeAt(0, place);
                checks.due(place + " of " + capacity, other.fullShare(0), (float) place / (float) capacity);
            }
        }
    }

    private static void fullShareRefuses() {
        checks.sentence("37: Throws ArithmeticException if it is 0 long");
        for (char kind : KINDS) {
            checks.refuses("of kind " + kind, Houses.empty(kind), Checks.ARITHMETIC, house -> house.fullShare(0));
        }
        checks.refuses("a slice of nothing", Houses.then(at(1, 4, 4), house -> house.slice(0, 0)), Checks.ARITHMETIC,
                house -> house.fullShare(0));
        checks.refuses("an empty row", Houses.then(Windowhouse::new, house -> house.wrap(0, 1)), Checks.ARITHMETIC,
                house -> house.fullShare(0));
    }

    private static void meanLeft() {
        checks.sentence("38: Returns how much is left in the windows that there are, in the mean.");
        checks.tells("one window", at(1, 2, 4), house -> house.meanLeft(), 2.0);
        checks.tells("the first and the last", Houses.firstAndLast(), house -> house.meanLeft(), 2.5);
        checks.tells("all eight", Houses.furnished(), house -> house.meanLeft(), (2 + 2 + 0 + 2 + 2 + 3 + 0 + 0) / 8.0);
        checks.tells("one over nothing", Houses.empty('i'), house -> house.meanLeft(), 0.0);
        checks.tells("one with nothing left", at(1, 4, 4), house -> house.meanLeft(), 0.0);
        checks.tells("one over nothing counts", Houses.then(at(1, 2, 4), house -> house.allocate(5, 'c', 0)),
                house -> house.meanLeft(), 1.0);
        checks.tells("a reader counts", Houses.then(at(1, 2, 4), house -> house.readOnly(0, 1)),
                house -> house.meanLeft(), 2.0);
        checks.tells("rows do not count", Houses.then(at(1, 2, 4), house -> house.make(0, 64)),
                house -> house.meanLeft(), 2.0);
        checks.sentence("38: Returns the sum divided by how many they are, both converted to double.");
        Windowhouse house = new Windowhouse();
        int sum = 0;
        for (int i = 0; i < 8; i++) {
            house.allocate(i, KINDS[i % 4], i * 3 + 1);
            sum += i * 3 + 1;
            checks.due("a sum of " + sum, house.meanLeft(), (double) sum / (i + 1));
        }
        for (int i = 0; i < 8; i++) {
            house.allocate(i, 'l', 64);
        }
        checks.due("eight full ones", house.meanLeft(), 64.0);
    }

    private static void meanLeftRefuses() {
        checks.sentence("38: Throws ArithmeticException if there are none");
        checks.refuses("in a new house", Windowhouse::new, Checks.ARITHMETIC, house -> house.meanLeft());
        checks.refuses("with rows alone", Houses.then(Windowhouse::new, house -> house.make(0, 64)), Checks.ARITHMETIC,
                house -> house.meanLeft());
    }

    private static long sumOf(long... parts) {
        BigInteger sum = BigInteger.valueOf(7);
        for (long part : parts) {
            sum = sum.multiply(BigInteger.valueOf(31)).add(BigInteger.valueOf(part));
        }
        return sum.longValue();
    }

    private static void checksum() {
        checks.sentence("39: Returns a sum over all.");
        checks.tells("a new house", Windowhouse::new, house -> house.checksum(),
                sumOf('-', '-', '-', '-', '-', '-', '-', '-'));
        checks.tells("all eight windows", Houses.furnished(), house -> house.checksum(), sumOf(
                'l', 2, 4, 5, Long.MIN_VALUE, -1, 2, 3, 'c', 1, 3, 4, 0, 97, 255, 's', 2, 2, 3, 7, -7,
                'c', 1, 3, 4, 0, 97, 255, 'l', 0, 2, 2, 2, 3, 'i', 0, 3, 3, 5, 0, Integer.MIN_VALUE,
                'i', 3, 3, 3, 5, 0, Integer.MIN_VALUE, 'i', 3, 3, 3, 5, 0, Integer.MIN_VALUE, 0, 9, -4));
    }

    private static final String SUM = "39: Returns 7 at first, then 31 times itself plus each of: for each window the code of"
            + " its kind, '-' if there is none, and, if there is one, its place, its end, how long it is, and each value from"
            + " 0 up to the end; then each number of both rows; a long that goes round.";

    private static void checksumOfWindows() {
        checks.sentence(SUM);
        checks.tells("window 0 over nothing", Houses.empty('s'), house -> house.checksum(),
                sumOf('s', 0, 0, 0, '-', '-', '-', '-', '-', '-', '-'));
        checks.tells("window 7 over nothing", Houses.then(Windowhouse::new, house -> house.allocate(7, 'c', 0)),
                house -> house.checksum(), sumOf('-', '-', '-', '-', '-', '-', '-', 'c', 0, 0, 0));
        checks.tells("an end of 0", at(0, 0, 0), house -> house.checksum(),
                sumOf('i', 0, 0, 6, '-', '-', '-', '-', '-', '-', '-'));
        checks.tells("an end of 1", at(0, 1, 1), house -> house.checksum(),
                sumOf('i', 1, 1, 6, 10, '-', '-', '-', '-', '-', '-', '-'));
        checks.tells("an end as far as it goes", at(0, 6, 6), house -> house.checksum(),
                sumOf('i', 6, 6, 6, 10, 11, 12, 13, 14, 15, '-', '-', '-', '-', '-', '-', '-'));
        checks.tells("a value from 0, though the place is the end", at(0, 2, 2), house -> house.checksum(),
                sumOf('i', 2, 2, 6, 10, 11, '-', '-', '-', '-', '-', '-', '-'));
        checks.tells("a reader with a mark", Houses.reader(at(0, 1, 1)), house -> house.checksum(),
                sumOf('i', 1, 1, 6, 10, '-', '-', '-', '-', '-', '-', '-'));
    }

    private static void checksumOfRows() {
        checks.sentence(SUM);
        checks.tells("row 0 alone", Houses.then(Windowhouse::new, house -> house.make(0, 2),
                house -> house.rowPut(0, 1, 5)), house -> house.checksum(),
                sumOf('-', '-', '-', '-', '-', '-', '-', '-', 0, 5));
        checks.tells("row 1 alone", Houses.then(Windowhouse::new, house -> house.make(1, 2),
                house -> house.rowPut(1, 0, Integer.MIN_VALUE)), house -> house.checksum(),
                sumOf('-', '-', '-', '-', '-', '-', '-', '-', Integer.MIN_VALUE, 0));
        checks.tells("both rows", Houses.then(Windowhouse::new, house -> house.make(1, 1), house -> house.make(0, 1),
                house -> house.rowPut(0, 0, 3), house -> house.rowPut(1, 0, 4)), house -> house.checksum(),
                sumOf('-', '-', '-', '-', '-', '-', '-', '-', 3, 4));
        checks.tells("a row made anew", Houses.then(Windowhouse::new, house -> house.make(0, 1),
                house -> house.rowPut(0, 0, 3), house -> house.make(0, 0)), house -> house.checksum(),
                sumOf('-', '-', '-', '-', '-', '-', '-', '-'));
    }

    private static void checksumGoesRound() {
        checks.sentence(SUM);
        long[] all = new long[8 * 68 + 128];
        Windowhouse house = new Windowhouse();
        for (int i = 0; i < 8; i++) {
            house.allocate(i, 'l', 64);
            house.fill(i, 64, Long.MAX_VALUE, i);
            all[i * 68] = 'l';
            all[i * 68 + 1] = 64;
            all[i * 68 + 2] = 64;
            all[i * 68 + 3] = 64;
            for (int at = 0; at < 64; at++) {
                all[i * 68 + 4 + at] = Long.MAX_VALUE + (long) i * at;
            }
        }
        house.make(0, 64);
        house.make(1, 64);
        for (int i = 0; i < 64; i++) {
            house.rowPut(0, i, Integer.MAX_VALUE - i);
            house.rowPut(1, i, Integer.MIN_VALUE + i);
            all[8 * 68 + i] = Integer.MAX_VALUE - i;
            all[8 * 68 + 64 + i] = Integer.MIN_VALUE + i;
        }
        checks.due("all windows and rows full", house.checksum(), sumOf(all));
    }

    private static final String THEOREM = "40: Checks the theorem for each window: its place and end are in bounds, and what"
            + " is put by a slice of what is left is there in the window and a duplicate; what is changed for that is laid"
            + " back.";

    private static void isTrue() {
        checks.sentence("40: Returns whether all of this is so.");
        checks.tells("of no windows", Windowhouse::new, house -> house.isTrue(), true);
        for (char kind : KINDS) {
            checks.tells("over nothing, of kind " + kind, Houses.empty(kind), house -> house.isTrue(), true);
            checks.tells("over 64, of kind " + kind, Houses.counted(kind, 64, 0, 0, 64), house -> house.isTrue(), true);
            checks.tells("nothing left of 64, of kind " + kind, Houses.counted(kind, 64, 64, 64, 64),
                    house -> house.isTrue(), true);
            checks.tells("a reader of kind " + kind, Houses.reader(Houses.counted(kind, 6, 1, 2, 4)),
                    house -> house.isTrue(), true);
        }
        checks.tells("an end of 0", at(0, 0, 0), house -> house.isTrue(), true);
        checks.tells("all eight windows", Houses.furnished(), house -> house.isTrue(), true);
    }

    private static void isTrueLaysBack() {
        checks.sentence(THEOREM);
        long[] least = {Integer.MIN_VALUE, -32768, -1, 0, 255, 32767, Integer.MAX_VALUE};
        for (char kind : KINDS) {
            checks.tells("values of kind " + kind, Houses.one(kind, 0, 0, 7, least), house -> house.isTrue(), true);
            checks.tells("once more, of kind " + kind, Houses.one(kind, 3, 4, 6, least),
                    house -> house.isTrue() && house.isTrue() && house.isTrue(), true);
        }
        checks.tells("the least and the greatest long", Houses.one('l', 0, 0, 2, Long.MIN_VALUE, Long.MAX_VALUE),
                house -> house.isTrue(), true);
        checks.tells("a row under a window", Houses.then(Windowhouse::new, house -> house.make(0, 2),
                house -> house.rowPut(0, 1, -7), house -> house.wrap(0, 0), house -> house.wrap(1, 0)),
                house -> house.isTrue(), true);
        checks.tells("slices, duplicates and readers over one store", Houses.then(at(1, 2, 5),
                house -> house.duplicate(0, 1), house -> house.slice(0, 2), house -> house.readOnly(0, 3),
                house -> house.sliceAt(0, 0, 3, 4)), house -> house.isTrue(), true);
    }
}
