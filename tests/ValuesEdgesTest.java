/** The edges of promises 22 to 27, a sentence of the document at a time. */
public final class ValuesEdgesTest {
    private static final int MIN = Integer.MIN_VALUE;
    private static final int MAX = Integer.MAX_VALUE;
    private static final int NONE = Houses.NONE;
    private static final String NO_WINDOW = "Throws IndexOutOfBoundsException if there is no such window";
    private static final char[] KINDS = {'i', 'l', 'c', 's'};

    private static final Checks checks = new Checks();

    public static void main(String[] args) {
        get();
        getRefuses();
        put();
        putCuts();
        putRefuses();
        getAt();
        getAtRefuses();
        putAt();
        putAtCuts();
        putAtRefuses();
        fill();
        fillMany();
        fillByAStep();
        fillRefuses();
        pour();
        pourMany();
        pourCuts();
        pourRefusesWindows();
        pourRefuses();
        checks.finish();
    }

    /** Six longs, 10 to 15. */
    private static Checks.Plan at(int mark, int place, int end) {
        return Houses.one('l', mark, place, end, 10, 11, 12, 13, 14, 15);
    }

    private static void get() {
        checks.windows(22, NO_WINDOW, Windowhouse::get, 3L, 15L);
        checks.sentence("22: Gets the value at the place, which goes on by one.");
        checks.leads("the first", at(NONE, 0, 6), house -> house.get(0), 10L, at(NONE, 1, 6));
        checks.leads("the one ahead of the end", at(1, 3, 4), house -> house.get(0), 13L, at(1, 4, 4));
        checks.leads("the last", at(1, 5, 6), house -> house.get(0), 15L, at(1, 6, 6));
        checks.leads("of a reader", Houses.reader(at(1, 3, 4)), house -> house.get(0), 13L, Houses.reader(at(1, 4, 4)));
        checks.leads("the last of 64", Houses.counted('c', 64, NONE, 63, 64), house -> house.get(0), 64L,
                Houses.counted('c', 64, NONE, 64, 64));
        checks.sentence("22: Returns the value.");
        checks.leads("the least int", Houses.one('i', NONE, 0, 1, MIN), house -> house.get(0), (long) MIN,
                Houses.one('i', NONE, 1, 1, MIN));
        checks.leads("the least long", Houses.one('l', NONE, 0, 1, Long.MIN_VALUE), house -> house.get(0),
                Long.MIN_VALUE, Houses.one('l', NONE, 1, 1, Long.MIN_VALUE));
        checks.leads("the greatest char", Houses.one('c', NONE, 0, 1, 255), house -> house.get(0), 255L,
                Houses.one('c', NONE, 1, 1, 255));
        checks.leads("the least short", Houses.one('s', NONE, 0, 1, -32768), house -> house.get(0), -32768L,
                Houses.one('s', NONE, 1, 1, -32768));
    }

    private static void getRefuses() {
        checks.sentence("22: Throws NoSuchElementException if nothing is left");
        checks.refuses("at the end", at(1, 4, 4), Checks.MISSING, house -> house.get(0));
        checks.refuses("at how long it is", at(1, 6, 6), Checks.MISSING, house -> house.get(0));
        checks.refuses("with an end of 0", at(0, 0, 0), Checks.MISSING, house -> house.get(0));
        checks.refuses("of a reader", Houses.reader(at(1, 4, 4)), Checks.MISSING, house -> house.get(0));
        checks.refuses("at 64", Houses.counted('i', 64, 3, 64, 64), Checks.MISSING, house -> house.get(0));
        for (char kind : KINDS) {
            checks.refuses("over nothing, of kind " + kind, Houses.empty(kind), Checks.MISSING, house -> house.get(0));
        }
    }

    private static void put() {
        checks.windows(23, NO_WINDOW, (house, window) -> house.put(window, 9), 3, 5);
        checks.sentence("23: Puts a value at the place, which goes on by one.");
        checks.leads("the first", at(NONE, 0, 6), house -> house.put(0, -1), 1,
                Houses.one('l', NONE, 1, 6, -1, 11, 12, 13, 14, 15));
        checks.leads("the one ahead of the end", at(1, 3, 4), house -> house.put(0, -1), 4,
                Houses.one('l', 1, 4, 4, 10, 11, 12, -1, 14, 15));
        checks.leads("the last", at(1, 5, 6), house -> house.put(0, -1), 6,
                Houses.one('l', 1, 6, 6, 10, 11, 12, 13, 14, -1));
        checks.sentence("23: Returns the place then.");
        checks.leads("1", Houses.one('i', NONE, 0, 1, 5), house -> house.put(0, 6), 1, Houses.one('i', NONE, 1, 1, 6));
        checks.leads("64", Houses.counted('i', 64, NONE, 63, 64), house -> house.put(0, 64), 64,
                Houses.counted('i', 64, NONE, 64, 64));
    }

    private static void putCuts() {
        checks.sentence("23: value: the value, which is cut to the kind");
        checks.leads("an int, just inside", Houses.one('i', NONE, 0, 1, 5), house -> house.put(0, MAX), 1,
                Houses.one('i', NONE, 1, 1, MAX));
        checks.leads("an int, just outside", Houses.one('i', NONE, 0, 1, 5), house -> house.put(0, MAX + 1L), 1,
                Houses.one('i', NONE, 1, 1, MIN));
        checks.leads("a long", Houses.one('l', NONE, 0, 1, 5), house -> house.put(0, Long.MAX_VALUE), 1,
                Houses.one('l', NONE, 1, 1, Long.MAX_VALUE));
        checks.leads("a char, just inside", Houses.one('c', NONE, 0, 1, 5), house -> house.put(0, 255), 1,
                Houses.one('c', NONE, 1, 1, 255));
        checks.leads("a char, just outside", Houses.one('c', NONE, 0, 1, 5), house -> house.put(0, 256), 1,
                Houses.one('c', NONE, 1, 1, 0));
        checks.leads("a char below 0", Houses.one('c', NONE, 0, 1, 5), house -> house.put(0, -1), 1,
                Houses.one('c', NONE, 1, 1, 255));
        checks.leads("a short, just inside", Houses.one('s', NONE, 0, 1, 5), house -> house.put(0, 32767), 1,
                Houses.one('s', NONE, 1, 1, 32767));
        checks.leads("a short, just outside", Houses.one('s', NONE, 0, 1, 5), house -> house.put(0, 32768), 1,
                Houses.one('s', NONE, 1, 1, -32768));
    }

    private static void putRefuses() {
        checks.sentence("23: Throws UnsupportedOperationException if it only reads");
        checks.refuses("with something left", Houses.reader(at(1, 2, 4)), Checks.UNSUPPORTED, house -> house.put(0, 9));
        checks.refuses("with nothing left", Houses.reader(at(1, 4, 4)), Checks.UNSUPPORTED, house -> house.put(0, 9));
        checks.refuses("over nothing", Houses.reader(Houses.empty('i')), Checks.UNSUPPORTED, house -> house.put(0, 9));
        checks.refuses("the very value that is there", Houses.reader(at(1, 2, 4)), Checks.UNSUPPORTED,
                house -> house.put(0, 12));
        checks.sentence("23: Throws IllegalStateException if nothing is left");
        checks.refuses("at the end", at(1, 4, 4), Checks.STATE, house -> house.put(0, 9));
        checks.refuses("at how long it is", at(1, 6, 6), Checks.STATE, house -> house.put(0, 9));
        checks.refuses("with an end of 0", at(0, 0, 0), Checks.STATE, house -> house.put(0, 9));
        checks.refuses("at 64", Houses.counted('i', 64, 3, 64, 64), Checks.STATE, house -> house.put(0, 9));
        checks.refuses("at the end of a slice, though its store goes on",
                Houses.then(at(1, 2, 4), house -> house.slice(0, 1), house -> house.placeAt(1, 2)), Checks.STATE,
                house -> house.put(1, 9));
        for (char kind : KINDS) {
            checks.refuses("over nothing, of kind " + kind, Houses.empty(kind), Checks.STATE, house -> house.put(0, 9));
        }
    }

    private static void getAt() {
        checks.windows(24, "Throws IndexOutOfBoundsException if there is no such window, or place",
                (house, window) -> house.getAt(window, 1), 2L, 12L);
        checks.sentence("24: Returns the value at a place of its own.");
        checks.tells("ahead of the place", at(1, 3, 5), house -> house.getAt(0, 2), 12L);
        checks.tells("at the place", at(1, 3, 5), house -> house.getAt(0, 3), 13L);
        checks.tells("behind the place", at(1, 3, 5), house -> house.getAt(0, 4), 14L);
        checks.tells("of a reader", Houses.reader(at(1, 3, 5)), house -> house.getAt(0, 4), 14L);
        checks.sentence("24: index: 0 to the end, without that");
        checks.tells("0", at(1, 3, 5), house -> house.getAt(0, 0), 10L);
        checks.tells("the last of all", at(1, 3, 6), house -> house.getAt(0, 5), 15L);
        checks.tells("0 of an end of 1", at(NONE, 1, 1), house -> house.getAt(0, 0), 10L);
        checks.tells("63 of 64", Houses.counted('i', 64, NONE, 64, 64), house -> house.getAt(0, 63), 64L);
        checks.sentence("24: Returns the value.");
        checks.tells("the greatest int", Houses.one('i', NONE, 0, 1, MAX), house -> house.getAt(0, 0), (long) MAX);
        checks.tells("the greatest long", Houses.one('l', NONE, 0, 1, Long.MAX_VALUE), house -> house.getAt(0, 0),
                Long.MAX_VALUE);
        checks.tells("the greatest char", Houses.one('c', NONE, 0, 1, 255), house -> house.getAt(0, 0), 255L);
        checks.tells("the least short", Houses.one('s', NONE, 0, 1, -32768), house -> house.getAt(0, 0), -32768L);
    }

    private static void getAtRefuses() {
        checks.sentence("24: Throws IndexOutOfBoundsException if there is no such window, or place");
        for (int index : new int[] {-1, 4, 5, 6, MIN, MAX}) {
            checks.refuses("getAt " + index, at(1, 2, 4), Checks.BOUNDS, house -> house.getAt(0, index));
        }
        checks.refuses("with an end of 0", at(0, 0, 0), Checks.BOUNDS, house -> house.getAt(0, 0));
        checks.refuses("behind 64", Houses.counted('i', 64, 3, 3, 64), Checks.BOUNDS, house -> house.getAt(0, 64));
        checks.refuses("ahead of a slice, though its store is there",
                Houses.then(at(1, 2, 4), house -> house.slice(0, 0)), Checks.BOUNDS, house -> house.getAt(0, -1));
        for (char kind : KINDS) {
            checks.refuses("over nothing, of kind " + kind, Houses.empty(kind), Checks.BOUNDS,
                    house -> house.getAt(0, 0));
        }
    }

    private static void putAt() {
        checks.windows(25, "Throws IndexOutOfBoundsException if there is no such window, or place",
                (house, window) -> house.putAt(window, 1, 9), 2L, 12L);
        checks.sentence("25: Puts a value at a place of its own.");
        checks.leads("ahead of the place", at(1, 3, 5), house -> house.putAt(0, 2, 9), 12L,
                Houses.one('l', 1, 3, 5, 10, 11, 9, 13, 14, 15));
        checks.leads("at the place", at(1, 3, 5), house -> house.putAt(0, 3, 9), 13L,
                Houses.one('l', 1, 3, 5, 10, 11, 12, 9, 14, 15));
        checks.leads("with nothing left", at(1, 5, 5), house -> house.putAt(0, 4, 9), 14L,
                Houses.one('l', 1, 5, 5, 10, 11, 12, 13, 9, 15));
        checks.sentence("25: index: 0 to the end, without that");
        checks.leads("0", at(1, 3, 5), house -> house.putAt(0, 0, 9), 10L,
                Houses.one('l', 1, 3, 5, 9, 11, 12, 13, 14, 15));
        checks.leads("the last ahead of the end", at(1, 3, 5), house -> house.putAt(0, 4, 9), 14L,
                Houses.one('l', 1, 3, 5, 10, 11, 12, 13, 9, 15));
        checks.leads("the last of all", at(1, 3, 6), house -> house.putAt(0, 5, 9), 15L,
                Houses.one('l', 1, 3, 6, 10, 11, 12, 13, 14, 9));
        checks.leads("63 of 64", Houses.counted('i', 64, NONE, 64, 64),
                house -> house.putAt(0, 63, 5) * house.putAt(0, 63, 64), 320L,
                Houses.counted('i', 64, NONE, 64, 64));
        checks.sentence("25: Returns the one that was there.");
        Windowhouse house = Houses.one('s', NONE, 0, 1, 32767).house();
        checks.due("the greatest short", house.putAt(0, 0, 32768), 32767L);
        checks.due("the least short", house.putAt(0, 0, 0), -32768L);
        checks.due("the same again", house.putAt(0, 0, 0), 0L);
    }

    private static void putAtCuts() {
        checks.sentence("25: value: the value, which is cut to the kind");
        checks.leads("an int, just inside", Houses.one('i', NONE, 0, 1, 5), house -> house.putAt(0, 0, MIN), 5L,
                Houses.one('i', NONE, 0, 1, MIN));
        checks.leads("an int, just outside", Houses.one('i', NONE, 0, 1, 5), house -> house.putAt(0, 0, MIN - 1L), 5L,
                Houses.one('i', NONE, 0, 1, MAX));
        checks.leads("a long", Houses.one('l', NONE, 0, 1, 5), house -> house.putAt(0, 0, Long.MIN_VALUE), 5L,
                Houses.one('l', NONE, 0, 1, Long.MIN_VALUE));
        checks.leads("a char, just inside", Houses.one('c', NONE, 0, 1, 5), house -> house.putAt(0, 0, 255), 5L,
                Houses.one('c', NONE, 0, 1, 255));
        checks.leads("a char, just outside", Houses.one('c', NONE, 0, 1, 5), house -> house.putAt(0, 0, 256), 5L,
                Houses.one('c', NONE, 0, 1, 0));
        checks.leads("a short, just inside", Houses.one('s', NONE, 0, 1, 5), house -> house.putAt(0, 0, -32768), 5L,
                Houses.one('s', NONE, 0, 1, -32768));
        checks.leads("a short, just outside", Houses.one('s', NONE, 0, 1, 5), house -> house.putAt(0, 0, -32769), 5L,
                Houses.one('s', NONE, 0, 1, 32767));
    }

    private static void putAtRefuses() {
        checks.sentence("25: Throws IndexOutOfBoundsException if there is no such window, or place");
        for (int index : new int[] {-1, 4, 5, 6, MIN, MAX}) {
            checks.refuses("putAt " + index, at(1, 2, 4), Checks.BOUNDS, house -> house.putAt(0, index, 9));
            checks.refuses("putAt " + index + " of a reader", Houses.reader(at(1, 2, 4)), Checks.BOUNDS,
                    house -> house.putAt(0, index, 9));
        }
        checks.refuses("with an end of 0", at(0, 0, 0), Checks.BOUNDS, house -> house.putAt(0, 0, 9));
        checks.refuses("behind 64", Houses.counted('i', 64, 3, 3, 64), Checks.BOUNDS, house -> house.putAt(0, 64, 9));
        checks.refuses("behind a slice, though its store goes on",
                Houses.then(at(1, 2, 4), house -> house.slice(0, 1)), Checks.BOUNDS, house -> house.putAt(1, 2, 9));
        checks.refuses("over nothing", Houses.empty('c'), Checks.BOUNDS, house -> house.putAt(0, 0, 9));
        checks.sentence("25: Throws UnsupportedOperationException if it only reads");
        checks.refuses("the first", Houses.reader(at(1, 2, 4)), Checks.UNSUPPORTED, house -> house.putAt(0, 0, 9));
        checks.refuses("the last", Houses.reader(at(1, 2, 4)), Checks.UNSUPPORTED, house -> house.putAt(0, 3, 9));
        checks.refuses("the very value that is there", Houses.reader(at(1, 2, 4)), Checks.UNSUPPORTED,
                house -> house.putAt(0, 0, 10));
    }

    private static void fill() {
        checks.windows(26, NO_WINDOW, (house, window) -> house.fill(window, 1, 9, 1), 3, 5);
        checks.noWindows(26, NO_WINDOW, (house, window) -> house.fill(window, -1, 9, 1));
        checks.sentence("26: value: the first one");
        checks.leads("the least long", at(1, 2, 4), house -> house.fill(0, 1, Long.MIN_VALUE, 5), 3,
                Houses.one('l', 1, 3, 4, 10, 11, Long.MIN_VALUE, 13, 14, 15));
        checks.leads("the greatest long", at(1, 2, 4), house -> house.fill(0, 1, Long.MAX_VALUE, 5), 3,
                Houses.one('l', 1, 3, 4, 10, 11, Long.MAX_VALUE, 13, 14, 15));
        checks.leads("one that is cut", Houses.one('s', NONE, 0, 1, 7), house -> house.fill(0, 1, 32768, 5), 1,
                Houses.one('s', NONE, 1, 1, -32768));
        checks.sentence("26: Returns the place then.");
        checks.leads("0", at(NONE, 0, 4), house -> house.fill(0, 0, 9, 1), 0, at(NONE, 0, 4));
        checks.leads("the end", at(NONE, 3, 4), house -> house.fill(0, 1, 13, 1), 4, at(NONE, 4, 4));
        checks.leads("64", Houses.counted('i', 64, 5, 62, 64), house -> house.fill(0, 2, 63, 1), 64,
                Houses.counted('i', 64, 5, 64, 64));
    }

    private static void fillMany() {
        checks.sentence("26: many: how many, 0 or more");
        checks.leads("0", at(1, 2, 4), house -> house.fill(0, 0, 9, 1), 2, at(1, 2, 4));
        checks.leads("0 with nothing left", at(1, 4, 4), house -> house.fill(0, 0, 9, 1), 4, at(1, 4, 4));
        checks.leads("0 over nothing", Houses.empty('c'), house -> house.fill(0, 0, 9, 1), 0, Houses.empty('c'));
        checks.leads("1", at(1, 2, 4), house -> house.fill(0, 1, 12, 9), 3, at(1, 3, 4));
        checks.leads("one fewer than are left", at(1, 2, 5), house -> house.fill(0, 2, 20, 1), 4,
                Houses.one('l', 1, 4, 5, 10, 11, 20, 21, 14, 15));
        checks.leads("all that are left", at(1, 2, 5), house -> house.fill(0, 3, 20, 1), 5,
                Houses.one('l', 1, 5, 5, 10, 11, 20, 21, 22, 15));
        checks.leads("64", Houses.one('i', NONE, 0, 64, new long[64]), house -> house.fill(0, 64, 1, 1), 64,
                Houses.counted('i', 64, NONE, 64, 64));
    }

    private static void fillByAStep() {
        checks.sentence("26: step: the step");
        checks.leads("0", Houses.counted('i', 3, NONE, 0, 3), house -> house.fill(0, 3, -5, 0), 3,
                Houses.one('i', NONE, 3, 3, -5, -5, -5));
        checks.leads("below 0", Houses.counted('i', 3, NONE, 0, 3), house -> house.fill(0, 3, 1, -1), 3,
                Houses.one('i', NONE, 3, 3, 1, 0, -1));
        checks.leads("the least long", Houses.counted('l', 3, NONE, 0, 3), house -> house.fill(0, 3, 1, Long.MIN_VALUE),
                3, Houses.one('l', NONE, 3, 3, 1, Long.MIN_VALUE + 1, 1));
        checks.sentence("26: Puts values from the place on, each by a step more than the one ahead, as longs that go round.");
        checks.leads("beyond the greatest", Houses.counted('l', 3, NONE, 0, 3),
                house -> house.fill(0, 3, Long.MAX_VALUE - 1, 1), 3,
                Houses.one('l', NONE, 3, 3, Long.MAX_VALUE - 1, Long.MAX_VALUE, Long.MIN_VALUE));
        checks.leads("below the least", Houses.counted('l', 2, NONE, 0, 2), house -> house.fill(0, 2, Long.MIN_VALUE, -1),
                2, Houses.one('l', NONE, 2, 2, Long.MIN_VALUE, Long.MAX_VALUE));
        checks.leads("beyond the greatest int, not round", Houses.counted('l', 2, NONE, 0, 2),
                house -> house.fill(0, 2, MAX, 1), 2, Houses.one('l', NONE, 2, 2, MAX, MAX + 1L));
        checks.leads("by longs, though ints are put", Houses.counted('i', 3, NONE, 0, 3),
                house -> house.fill(0, 3, 1, 1L << 31), 3, Houses.one('i', NONE, 3, 3, 1, MIN + 1, 1));
        checks.leads("by longs, though chars are put", Houses.counted('c', 3, NONE, 0, 3),
                house -> house.fill(0, 3, 255, 129), 3, Houses.one('c', NONE, 3, 3, 255, 128, 1));
        checks.leads("by longs, though shorts are put", Houses.counted('s', 3, NONE, 0, 3),
                house -> house.fill(0, 3, 32767, 1), 3, Houses.one('s', NONE, 3, 3, 32767, -32768, -32767));
    }

    private static void fillRefuses() {
        checks.sentence("26: Throws IllegalArgumentException if it is fewer than 0");
        checks.refuses("-1", at(1, 2, 4), Checks.ARGUMENT, house -> house.fill(0, -1, 9, 1));
        checks.refuses("the least", at(1, 2, 4), Checks.ARGUMENT, house -> house.fill(0, MIN, 9, 1));
        checks.refuses("-1 with nothing left", at(1, 4, 4), Checks.ARGUMENT, house -> house.fill(0, -1, 9, 1));
        checks.refuses("-1 of a reader", Houses.reader(at(1, 2, 4)), Checks.ARGUMENT, house -> house.fill(0, -1, 9, 1));
        checks.sentence("26: Throws UnsupportedOperationException if it only reads");
        for (int many : new int[] {0, 1, 2, 3, MAX}) {
            checks.refuses(many + " of a reader", Houses.reader(at(1, 2, 4)), Checks.UNSUPPORTED,
                    house -> house.fill(0, many, 9, 1));
        }
        checks.refuses("0 over nothing", Houses.reader(Houses.empty('l')), Checks.UNSUPPORTED,
                house -> house.fill(0, 0, 9, 1));
        checks.sentence("26: Throws IllegalStateException if not so many are left");
        checks.refuses("one more than are left", at(1, 2, 4), Checks.STATE, house -> house.fill(0, 3, 9, 1));
        checks.refuses("as many as it is long", at(1, 2, 6), Checks.STATE, house -> house.fill(0, 6, 9, 1));
        checks.refuses("1 with nothing left", at(1, 4, 4), Checks.STATE, house -> house.fill(0, 1, 9, 1));
        checks.refuses("1 over nothing", Houses.empty('s'), Checks.STATE, house -> house.fill(0, 1, 9, 1));
        checks.refuses("65 of 64", Houses.counted('c', 64, NONE, 0, 64), Checks.STATE, house -> house.fill(0, 65, 9, 1));
        checks.refuses("the greatest", at(1, 2, 4), Checks.STATE, house -> house.fill(0, MAX, 9, 1));
    }

    /** Window 0 of longs, 10 to 15, and window 1 of ints, 20 to 24. */
    private static Checks.Plan two(int place, int end, int otherPlace, int otherEnd) {
        return twoOf(place, end, otherPlace, otherEnd, 20, 21, 22, 23, 24);
    }

    private static Checks.Plan twoOf(int place, int end, int otherPlace, int otherEnd, long... others) {
        return Houses.then(at(1, place, end), house -> {
            Houses.lay(house, 1, 'i', others);
            Houses.set(house, 1, 0, otherPlace, otherEnd);
            return house;
        });
    }

    private static void pour() {
        checks.windows(27, "Throws IndexOutOfBoundsException if there is no such window, for either",
                (house, window) -> house.pour(window, 7 - window, 1), 5, 3);
        checks.sentence("27: Gets values of a window and puts them into another one, one by one, both going on.");
        checks.leads("two", two(2, 6, 1, 4), house -> house.pour(0, 1, 2), 3,
                twoOf(4, 6, 3, 4, 20, 12, 13, 23, 24));
        Windowhouse ahead = Houses.then(at(NONE, 0, 6), house -> house.duplicate(0, 1)).house();
        ahead.placeAt(1, 2);
        checks.due("into a duplicate that is two ahead", ahead.pour(0, 1, 4), 6);
        checks.due("one by one", Checks.valuesOf(ahead, 0), "10 11 10 11 10 11");
        Windowhouse behind = Houses.then(at(NONE, 0, 6), house -> house.slice(0, 1)).house();
        behind.placeAt(0, 2);
        checks.due("into a slice that is two behind", behind.pour(0, 1, 4), 4);
        checks.due("one by one", Checks.valuesOf(behind, 0), "12 13 14 15 14 15");
        Windowhouse level = Houses.then(at(NONE, 0, 6), house -> house.duplicate(0, 1)).house();
        checks.due("into a duplicate at the same place", level.pour(0, 1, 6), 6);
        checks.due("nothing changes", Checks.valuesOf(level, 0), "10 11 12 13 14 15");
        checks.sentence("27: other: the other one");
        checks.due("from 0 into 7", Houses.firstAndLast().house().pour(0, 7, 2), 6);
        checks.due("from 7 into 0", Houses.firstAndLast().house().pour(7, 0, 2), 4);
    }

    private static void pourMany() {
        checks.sentence("27: many: how many, 0 or more");
        checks.leads("0", two(2, 6, 1, 4), house -> house.pour(0, 1, 0), 1, two(2, 6, 1, 4));
        checks.leads("0 of nothing", two(6, 6, 1, 4), house -> house.pour(0, 1, 0), 1, two(6, 6, 1, 4));
        checks.leads("0 into nothing", two(2, 6, 4, 4), house -> house.pour(0, 1, 0), 4, two(2, 6, 4, 4));
        checks.leads("1", two(2, 6, 1, 4), house -> house.pour(0, 1, 1), 2, twoOf(3, 6, 2, 4, 20, 12, 22, 23, 24));
        checks.leads("all of the first", two(4, 6, 1, 4), house -> house.pour(0, 1, 2), 3,
                twoOf(6, 6, 3, 4, 20, 14, 15, 23, 24));
        checks.leads("all of the other", two(1, 6, 3, 5), house -> house.pour(0, 1, 2), 5,
                twoOf(3, 6, 5, 5, 20, 21, 22, 11, 12));
        checks.leads("all of both", two(4, 5, 0, 1), house -> house.pour(0, 1, 1), 1,
                twoOf(5, 5, 1, 1, 14, 21, 22, 23, 24));
        checks.sentence("27: Returns the place of the other one then.");
        Windowhouse house = Houses.counted('i', 64, NONE, 0, 64).house();
        house.allocate(1, 'c', 64);
        checks.due("64", house.pour(0, 1, 64), 64);
        checks.due("the first one went on as far", house.place(0), 64);
        checks.due("the last value", house.getAt(1, 63), 64L);
        checks.due("0 once more", house.pour(0, 1, 0), 64);
    }

    private static void pourCuts() {
        checks.sentence("27: Gets values of a window and puts them into another one, one by one, both going on.");
        long[] values = {-1, 256, 32768, 1L << 31, 1L << 32, Long.MIN_VALUE};
        for (char kind : KINDS) {
            Windowhouse house = Houses.one('l', NONE, 0, 6, values).house();
            house.allocate(1, kind, 6);
            house.pour(0, 1, 6);
            house.allocate(2, kind, 6);
            house.fill(2, 1, -1, 0);
            house.fill(2, 1, 256, 0);
            house.fill(2, 1, 32768, 0);
            house.fill(2, 1, 1L << 31, 0);
            house.fill(2, 1, 1L << 32, 0);
            house.fill(2, 1, Long.MIN_VALUE, 0);
            checks.due("into kind " + kind, Checks.valuesOf(house, 1), Checks.valuesOf(house, 2));
            checks.due("the first one keeps its own", house.getAt(0, 5), Long.MIN_VALUE);
        }
        checks.due("a reader may be the first one", Houses.then(at(NONE, 0, 6), house -> house.readOnly(0, 0),
                house -> house.allocate(1, 's', 2)).house().pour(0, 1, 2), 2);
    }

    private static void pourRefusesWindows() {
        String thrown = "Throws IndexOutOfBoundsException if there is no such window, for either";
        checks.noWindows(27, thrown, (house, window) -> house.pour(window, 7, 1));
        checks.noWindows(27, thrown, (house, window) -> house.pour(7, window, 1));
        checks.noWindows(27, thrown, (house, window) -> house.pour(window, window, -1));
        checks.sentence("27: Throws IllegalArgumentException if both are the same, or it is fewer than 0");
        for (int many : new int[] {-1, 0, 1, 2, 3, MIN, MAX}) {
            checks.refuses("both the same, " + many, two(2, 4, 1, 4), Checks.ARGUMENT, house -> house.pour(0, 0, many));
            checks.refuses("both the same reader, " + many, Houses.reader(two(2, 4, 1, 4)), Checks.ARGUMENT,
                    house -> house.pour(0, 0, many));
        }
        checks.refuses("-1", two(2, 4, 1, 4), Checks.ARGUMENT, house -> house.pour(0, 1, -1));
        checks.refuses("the least", two(2, 4, 1, 4), Checks.ARGUMENT, house -> house.pour(0, 1, MIN));
        checks.refuses("-1 of nothing", two(4, 4, 1, 4), Checks.ARGUMENT, house -> house.pour(0, 1, -1));
        checks.refuses("-1 into a reader", Houses.reader(two(2, 4, 1, 4)), Checks.ARGUMENT, house -> house.pour(1, 0, -1));
    }

    private static void pourRefuses() {
        checks.sentence("27: Throws UnsupportedOperationException if the other one only reads");
        for (int many : new int[] {0, 1, 3, 4, MAX}) {
            checks.refuses(many + " into a reader", Houses.reader(two(2, 4, 1, 4)), Checks.UNSUPPORTED,
                    house -> house.pour(1, 0, many));
        }
        checks.refuses("of a reader into another", Houses.then(at(1, 2, 4), house -> house.readOnly(0, 1),
                house -> house.readOnly(0, 2)), Checks.UNSUPPORTED, house -> house.pour(1, 2, 1));
        checks.sentence("27: Throws NoSuchElementException if not so many are left in the first one");
        checks.refuses("one more", two(4, 6, 1, 5), Checks.MISSING, house -> house.pour(0, 1, 3));
        checks.refuses("1 of nothing", two(6, 6, 1, 5), Checks.MISSING, house -> house.pour(0, 1, 1));
        checks.refuses("1 ahead of how long it is", two(4, 4, 1, 5), Checks.MISSING, house -> house.pour(0, 1, 1));
        checks.refuses("too many for both", two(4, 6, 4, 5), Checks.MISSING, house -> house.pour(0, 1, 3));
        checks.refuses("the greatest", two(4, 6, 1, 5), Checks.MISSING, house -> house.pour(0, 1, MAX));
        checks.refuses("1 over nothing", Houses.then(two(4, 6, 1, 5), house -> house.allocate(0, 'c', 0)),
                Checks.MISSING, house -> house.pour(0, 1, 1));
        checks.sentence("27: Throws IllegalStateException if not so many are left in the other one");
        checks.refuses("one more", two(2, 6, 1, 4), Checks.STATE, house -> house.pour(0, 1, 4));
        checks.refuses("1 into nothing", two(2, 6, 4, 4), Checks.STATE, house -> house.pour(0, 1, 1));
        checks.refuses("1 into nothing at how long it is", two(2, 6, 5, 5), Checks.STATE, house -> house.pour(0, 1, 1));
        checks.refuses("all of the first one", two(1, 6, 1, 5), Checks.STATE, house -> house.pour(0, 1, 5));
        checks.refuses("1 over nothing", Houses.then(two(2, 6, 1, 4), house -> house.allocate(1, 's', 0)),
                Checks.STATE, house -> house.pour(0, 1, 1));
    }
}
