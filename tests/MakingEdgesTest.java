/** The edges of promises 5 to 8 and 28 to 31, a sentence of the document at a time. */
public final class MakingEdgesTest {
    private static final int MIN = Integer.MIN_VALUE;
    private static final int MAX = Integer.MAX_VALUE;
    private static final int NONE = Houses.NONE;
    private static final String NO_WINDOWS_OR_TARGET =
            "Throws IndexOutOfBoundsException if there is no such window, or the other one is not 0 to 7";
    private static final int[] OUTSIDE = {-1, 8, MIN, MAX};
    private static final char[] KINDS = {'i', 'l', 'c', 's'};

    private static final Checks checks = new Checks();

    public static void main(String[] args) {
        allocate();
        allocateEachKind();
        allocateTakes0To64();
        allocateTellsWhetherThereWasOne();
        allocateRefuses();
        wrap();
        wrapTellsHowLongItIs();
        wrapRefuses();
        kind();
        capacity();
        slice();
        sliceTo();
        sliceAt();
        sliceAtFromAndMany();
        sliceAtTo();
        sliceAtRefuses();
        duplicate();
        duplicateTo();
        readOnly();
        readOnlyTo();
        checks.finish();
    }

    /** Six shorts, 10 to 15. */
    private static Checks.Plan at(int mark, int place, int end) {
        return Houses.one('s', mark, place, end, 10, 11, 12, 13, 14, 15);
    }

    private static void allocate() {
        checks.sentence("5: Makes a window over a new store.");
        checks.leads("in the place of one", at(1, 2, 4), house -> house.allocate(0, 's', 6), true,
                Houses.one('s', NONE, 0, 6, 0, 0, 0, 0, 0, 0));
        checks.leads("in the place of a reader", Houses.reader(at(1, 2, 4)), house -> house.allocate(0, 'l', 2), true,
                Houses.one('l', NONE, 0, 2, 0, 0));
        checks.leads("in the place of a slice", Houses.then(at(1, 2, 4), house -> house.slice(0, 0)),
                house -> house.allocate(0, 's', 2), true, Houses.one('s', NONE, 0, 2, 0, 0));
        checks.sentence("5: window: 0 to 7");
        for (int window = 0; window < 8; window++) {
            Windowhouse house = new Windowhouse();
            checks.due("allocate " + window, house.allocate(window, 'c', 3), false);
            for (int other = 0; other < 8; other++) {
                checks.due("kind of " + other, house.kind(other), other == window ? 'c' : '-');
            }
        }
    }

    private static void allocateEachKind() {
        checks.sentence("5: kind: 'i', 'l', 'c' or 's'");
        for (char kind : KINDS) {
            Windowhouse house = new Windowhouse();
            checks.due("allocate", house.allocate(0, kind, 1), false);
            checks.due("kind", house.kind(0), kind);
            checks.due("isReadOnly", house.isReadOnly(0), false);
        }
    }

    private static void allocateTakes0To64() {
        checks.sentence("5: capacity: how long it is, 0 to 64");
        for (char kind : KINDS) {
            for (int capacity : new int[] {0, 1, 63, 64}) {
                checks.leads(kind + " of " + capacity, Windowhouse::new, house -> house.allocate(0, kind, capacity),
                        false, Houses.one(kind, NONE, 0, capacity, new long[capacity]));
            }
        }
    }

    private static void allocateTellsWhetherThereWasOne() {
        checks.sentence("5: Returns whether there was one.");
        Windowhouse house = new Windowhouse();
        checks.due("the first", house.allocate(7, 'i', 0), false);
        checks.due("over one of nothing", house.allocate(7, 'i', 0), true);
        checks.due("beside it", house.allocate(6, 'i', 64), false);
        house.readOnly(6, 5);
        checks.due("over a reader", house.allocate(5, 'i', 1), true);
        checks.refuses("one that is refused makes none", Windowhouse::new, Checks.ARGUMENT,
                of -> of.allocate(0, 'i', 65));
    }

    private static void allocateRefuses() {
        checks.sentence("5: Throws IndexOutOfBoundsException if the window is not 0 to 7");
        for (int window : OUTSIDE) {
            checks.refuses("allocate " + window, at(1, 2, 4), Checks.BOUNDS, house -> house.allocate(window, 'i', 3));
        }
        checks.sentence("5: Throws IllegalArgumentException if there is no such kind, or the length is out of range");
        for (int capacity : new int[] {-1, 65, MIN, MAX, 256}) {
            for (char kind : KINDS) {
                checks.refuses(kind + " of " + capacity, at(1, 2, 4), Checks.ARGUMENT,
                        house -> house.allocate(0, kind, capacity));
            }
        }
        for (char kind : new char[] {'-', 'I', 'L', 'C', 'S', 'b', 'd', 'h', 'j', 'k', 'm', 'r', 't', ' ', 'i' + 256}) {
            checks.refuses("kind " + kind, at(1, 2, 4), Checks.ARGUMENT, house -> house.allocate(0, kind, 3));
            checks.refuses("kind " + kind, at(1, 2, 4), Checks.ARGUMENT, house -> house.allocate(1, kind, 0));
        }
        int allowed = 0;
        for (int kind = 0; kind <= 65535; kind++) {
            try {
                new Windowhouse().allocate(0, (char) kind, 1);
                allowed++;
            } catch (IllegalArgumentException e) {
                continue;
            }
        }
        checks.due("how many kinds there are", allowed, 4);
    }

    private static void wrap() {
        checks.sentence("6: Makes a window of ints over the array of a row.");
        Windowhouse house = at(1, 2, 4).house();
        house.readOnly(0, 0);
        house.make(0, 2);
        house.rowPut(0, 0, MIN);
        checks.due("wrap", house.wrap(0, 0), 2);
        checks.due("kind", house.kind(0), 'i');
        checks.due("bounds", Checks.boundsOf(house, 0), "0 2 2");
        checks.due("it writes", house.isReadOnly(0), false);
        checks.due("values", Checks.valuesOf(house, 0), MIN + " 0");
        house.put(0, MAX + 1L + MAX);
        checks.due("it is over the very array", house.rowAt(0, 0), -1);
        house.rowPut(0, 1, 6);
        checks.due("it is over the very array", house.getAt(0, 1), 6L);
        checks.sentence("6: window: 0 to 7");
        checks.due("window 0", new Windowhouse().wrap(0, 1), 0);
        checks.due("window 7", new Windowhouse().wrap(7, 1), 0);
        checks.sentence("6: row: 0 or 1");
        house.make(1, 3);
        checks.due("row 0", house.wrap(5, 0), 2);
        checks.due("row 1", house.wrap(6, 1), 3);
    }

    private static void wrapTellsHowLongItIs() {
        checks.sentence("6: Returns how long it is.");
        for (int length : new int[] {0, 1, 63, 64}) {
            Windowhouse house = new Windowhouse();
            house.make(1, length);
            checks.due("a row of " + length, house.wrap(3, 1), length);
            checks.due("bounds", Checks.boundsOf(house, 3), "0 " + length + " " + length);
        }
        Windowhouse house = new Windowhouse();
        house.make(0, 64);
        house.make(0, 2);
        checks.due("the newest array", house.wrap(0, 0), 2);
    }

    private static void wrapRefuses() {
        checks.sentence("6: Throws IndexOutOfBoundsException if the window is not 0 to 7, or there is no such row");
        for (int window : OUTSIDE) {
            checks.refuses("wrap " + window, Houses.furnished(), Checks.BOUNDS, house -> house.wrap(window, 0));
        }
        for (int row : new int[] {-1, 2, MIN, MAX}) {
            checks.refuses("wrap of row " + row, Houses.furnished(), Checks.BOUNDS, house -> house.wrap(0, row));
            checks.refuses("wrap of row " + row, Windowhouse::new, Checks.BOUNDS, house -> house.wrap(7, row));
            checks.refuses("both", Houses.furnished(), Checks.BOUNDS, house -> house.wrap(8, row));
        }
    }

    private static void kind() {
        checks.sentence("7: Returns the kind of a window.");
        for (char kind : KINDS) {
            checks.tells("of a reader", Houses.reader(Houses.empty(kind)), house -> house.kind(0), kind);
            checks.tells("of a slice", Houses.then(Houses.empty(kind), house -> house.slice(0, 4)),
                    house -> house.kind(4), kind);
            checks.tells("of a part", Houses.then(Houses.empty(kind), house -> house.sliceAt(0, 0, 0, 4)),
                    house -> house.kind(4), kind);
            checks.tells("of a duplicate", Houses.then(Houses.empty(kind), house -> house.duplicate(0, 4)),
                    house -> house.kind(4), kind);
        }
        checks.sentence("7: window: 0 to 7");
        checks.tells("window 0", Houses.firstAndLast(), house -> house.kind(0), 'c');
        checks.tells("window 7", Houses.firstAndLast(), house -> house.kind(7), 'c');
        checks.sentence("7: Returns the kind, '-' if there is none.");
        checks.tells("beside window 0", Houses.firstAndLast(), house -> house.kind(1), '-');
        checks.tells("beside window 7", Houses.firstAndLast(), house -> house.kind(6), '-');
        checks.tells("of one over nothing", Houses.empty('l'), house -> house.kind(0), 'l');
        checks.sentence("7: Throws IndexOutOfBoundsException if it is not 0 to 7");
        for (int window : OUTSIDE) {
            checks.refuses("kind " + window, Houses.firstAndLast(), Checks.BOUNDS, house -> house.kind(window));
            checks.refuses("kind " + window, Windowhouse::new, Checks.BOUNDS, house -> house.kind(window));
        }
    }

    private static void capacity() {
        checks.windows(8, "Throws IndexOutOfBoundsException if there is no such window", Windowhouse::capacity, 6, 8);
        checks.sentence("8: Returns how long a window is.");
        checks.tells("of a reader", Houses.reader(at(1, 2, 4)), house -> house.capacity(0), 6);
        checks.tells("of a duplicate", Houses.then(at(1, 2, 4), house -> house.duplicate(0, 3)),
                house -> house.capacity(3), 6);
        checks.sentence("8: Returns how many values its stretch has.");
        checks.tells("0", Houses.empty('i'), house -> house.capacity(0), 0);
        checks.tells("64", Houses.counted('i', 64, NONE, 3, 9), house -> house.capacity(0), 64);
        checks.tells("with an end of 0", at(0, 0, 0), house -> house.capacity(0), 6);
        checks.tells("of a slice", Houses.then(at(1, 2, 4), house -> house.slice(0, 3)), house -> house.capacity(3), 2);
    }

    private static void slice() {
        checks.windows(28, NO_WINDOWS_OR_TARGET, (house, window) -> house.slice(window, window), 2, 3);
        checks.noWindows(28, NO_WINDOWS_OR_TARGET, (house, window) -> house.slice(window, 7));
        checks.sentence("28: Makes a window over what is left in one.");
        Windowhouse house = at(1, 2, 5).house();
        house.slice(0, 1);
        checks.due("values", Checks.valuesOf(house, 1), "12 13 14");
        house.put(1, 20);
        house.putAt(0, 4, 24);
        checks.due("it is over the same store", Checks.valuesOf(house, 0) + ", " + Checks.valuesOf(house, 1),
                "10 11 20 13 24, 20 13 24");
        checks.due("the window itself stays", Checks.boundsOf(house, 0) + " " + house.back(0), "2 5 6 1");
        house.placeAt(1, 1);
        checks.due("a slice of the slice", house.slice(1, 2) + ": " + Checks.valuesOf(house, 2), "2: 13 24");
        checks.sentence("28: Returns how long it is.");
        checks.leads("nothing left", at(1, 4, 4), of -> of.slice(0, 0), 0, Houses.one('s', NONE, 0, 0));
        checks.leads("nothing left of all", at(6, 6, 6), of -> of.slice(0, 0), 0, Houses.one('s', NONE, 0, 0));
        checks.leads("one left", at(1, 3, 4), of -> of.slice(0, 0), 1, Houses.one('s', NONE, 0, 1, 13));
        checks.leads("all left", at(0, 0, 6), of -> of.slice(0, 0), 6, at(NONE, 0, 6));
        checks.leads("over nothing", Houses.empty('l'), of -> of.slice(0, 0), 0, Houses.empty('l'));
        checks.leads("64 left", Houses.counted('c', 64, 0, 0, 64), of -> of.slice(0, 0), 64,
                Houses.counted('c', 64, NONE, 0, 64));
    }

    private static void sliceTo() {
        checks.sentence("28: to: the window that it becomes, 0 to 7, perhaps the same");
        for (int to : new int[] {0, 1, 6, 7}) {
            Windowhouse house = at(1, 2, 4).house();
            checks.due("to " + to, house.slice(0, to), 2);
            checks.due("its values", Checks.valuesOf(house, to), "12 13");
        }
        checks.leads("the same, again and again", at(1, 1, 6),
                house -> house.slice(0, 0) * 100 + house.placeAt(0, 2) * 10 + house.slice(0, 0), 503,
                Houses.one('s', NONE, 0, 3, 13, 14, 15));
        checks.sentence("28: " + NO_WINDOWS_OR_TARGET);
        for (int to : OUTSIDE) {
            checks.refuses("to " + to, Houses.furnished(), Checks.BOUNDS, house -> house.slice(0, to));
            checks.refuses("of none, to " + to, Windowhouse::new, Checks.BOUNDS, house -> house.slice(0, to));
        }
    }

    private static void sliceAt() {
        String thrown = "Throws IndexOutOfBoundsException if there is no such window, or part, or the other one is not 0 to 7";
        checks.windows(29, thrown, (house, window) -> house.sliceAt(window, 1, 2, window), 2, 2);
        checks.noWindows(29, thrown, (house, window) -> house.sliceAt(window, 0, 0, 7));
        checks.sentence("29: Makes a window over a part of one.");
        Windowhouse house = at(1, 4, 5).house();
        house.sliceAt(0, 1, 3, 1);
        checks.due("values, ahead of the place", Checks.valuesOf(house, 1), "11 12 13");
        house.put(1, 21);
        house.putAt(0, 3, 23);
        checks.due("it is over the same store", Checks.valuesOf(house, 0) + ", " + Checks.valuesOf(house, 1),
                "10 21 12 23 14, 21 12 23");
        checks.due("the window itself stays", Checks.boundsOf(house, 0) + " " + house.back(0), "4 5 6 3");
        checks.due("a part of the part", house.sliceAt(1, 1, 2, 2) + ": " + Checks.valuesOf(house, 2), "2: 12 23");
        checks.sentence("29: Returns how long it is.");
        checks.leads("0", at(1, 2, 4), of -> of.sliceAt(0, 2, 0, 0), 0, Houses.one('s', NONE, 0, 0));
        checks.leads("64", Houses.counted('c', 64, 3, 9, 64), of -> of.sliceAt(0, 0, 64, 0), 64,
                Houses.counted('c', 64, NONE, 0, 64));
        checks.leads("over nothing", Houses.empty('l'), of -> of.sliceAt(0, 0, 0, 0), 0, Houses.empty('l'));
    }

    private static void sliceAtFromAndMany() {
        checks.sentence("29: from: the first place, 0 to the end");
        checks.leads("0", at(1, 2, 4), house -> house.sliceAt(0, 0, 1, 0), 1, Houses.one('s', NONE, 0, 1, 10));
        checks.leads("the last ahead of the end", at(1, 2, 4), house -> house.sliceAt(0, 3, 1, 0), 1,
                Houses.one('s', NONE, 0, 1, 13));
        checks.leads("the end", at(1, 2, 4), house -> house.sliceAt(0, 4, 0, 0), 0, Houses.one('s', NONE, 0, 0));
        checks.leads("how long it is", at(1, 2, 6), house -> house.sliceAt(0, 6, 0, 0), 0, Houses.one('s', NONE, 0, 0));
        checks.leads("an end of 0", at(0, 0, 0), house -> house.sliceAt(0, 0, 0, 0), 0, Houses.one('s', NONE, 0, 0));
        checks.sentence("29: many: how many, 0 to the end less that");
        checks.leads("0 at the beginning", at(1, 2, 4), house -> house.sliceAt(0, 0, 0, 0), 0,
                Houses.one('s', NONE, 0, 0));
        checks.leads("all to the end", at(1, 2, 4), house -> house.sliceAt(0, 0, 4, 0), 4,
                Houses.one('s', NONE, 0, 4, 10, 11, 12, 13));
        checks.leads("from 1 to the end", at(1, 2, 4), house -> house.sliceAt(0, 1, 3, 0), 3,
                Houses.one('s', NONE, 0, 3, 11, 12, 13));
        checks.leads("one fewer", at(1, 2, 4), house -> house.sliceAt(0, 1, 2, 0), 2,
                Houses.one('s', NONE, 0, 2, 11, 12));
        checks.leads("as long as it is", at(1, 2, 6), house -> house.sliceAt(0, 0, 6, 0), 6, at(NONE, 0, 6));
    }

    private static void sliceAtTo() {
        checks.sentence("29: to: the window that it becomes, 0 to 7, perhaps the same");
        for (int to : new int[] {0, 1, 6, 7}) {
            Windowhouse house = at(1, 2, 4).house();
            checks.due("to " + to, house.sliceAt(0, 1, 2, to), 2);
            checks.due("its values", Checks.valuesOf(house, to), "11 12");
        }
        checks.leads("the same, again and again", at(1, 2, 4),
                house -> house.sliceAt(0, 1, 3, 0) * 10 + house.sliceAt(0, 1, 2, 0), 32,
                Houses.one('s', NONE, 0, 2, 12, 13));
        checks.sentence("29: Throws IndexOutOfBoundsException if there is no such window, or part, or the other one is not"
                + " 0 to 7");
        for (int to : OUTSIDE) {
            checks.refuses("to " + to, Houses.furnished(), Checks.BOUNDS, house -> house.sliceAt(0, 1, 2, to));
            checks.refuses("no part, to " + to, Houses.furnished(), Checks.BOUNDS, house -> house.sliceAt(0, 9, 2, to));
        }
    }

    private static void sliceAtRefuses() {
        checks.sentence("29: Throws IndexOutOfBoundsException if there is no such window, or part, or the other one is not"
                + " 0 to 7");
        int[][] parts = {{-1, 0}, {-1, 1}, {-1, 5}, {MIN, 0}, {MIN, MIN}, {MIN, MAX}, {5, 0}, {5, -1}, {6, 0}, {7, 0},
            {MAX, 0}, {MAX, 1}, {MAX, MAX}, {MAX, MIN}, {MAX, -MAX}, {0, -1}, {4, -1}, {0, MIN}, {1, MAX}, {4, MAX}, {0, 5},
            {1, 4}, {3, 2}, {4, 1}, {0, MAX}, {2, MAX - 1}};
        for (int[] part : parts) {
            for (int to = 0; to < 2; to++) {
                int into = to;
                checks.refuses("from " + part[0] + ", " + part[1], at(1, 2, 4), Checks.BOUNDS,
                        house -> house.sliceAt(0, part[0], part[1], into));
            }
        }
        checks.refuses("1 over nothing", Houses.empty('i'), Checks.BOUNDS, house -> house.sliceAt(0, 0, 1, 0));
        checks.refuses("from 1 over nothing", Houses.empty('i'), Checks.BOUNDS, house -> house.sliceAt(0, 1, 0, 0));
        checks.refuses("65 of 64", Houses.counted('i', 64, 0, 0, 64), Checks.BOUNDS, house -> house.sliceAt(0, 0, 65, 0));
        checks.refuses("from 65 of 64", Houses.counted('i', 64, 0, 0, 64), Checks.BOUNDS,
                house -> house.sliceAt(0, 65, 0, 0));
    }

    private static void duplicate() {
        checks.windows(30, NO_WINDOWS_OR_TARGET, (house, window) -> house.duplicate(window, window), 2, 3);
        checks.noWindows(30, NO_WINDOWS_OR_TARGET, (house, window) -> house.duplicate(window, 7));
        checks.sentence("30: Makes a duplicate of a window.");
        Windowhouse house = at(1, 2, 4).house();
        house.duplicate(0, 1);
        checks.due("bounds", Checks.boundsOf(house, 1), "2 4 6");
        house.put(1, 22);
        house.putAt(0, 3, 23);
        checks.due("it is over the same store", Checks.valuesOf(house, 0) + ", " + Checks.valuesOf(house, 1),
                "10 11 22 23, 10 11 22 23");
        checks.due("the window itself stays", Checks.boundsOf(house, 0) + " " + house.back(0), "2 4 6 1");
        checks.due("its mark", house.back(1), 2);
        house.clear(1);
        checks.due("it goes as far", Checks.valuesOf(house, 1), "10 11 22 23 14 15");
        checks.sentence("30: Returns how much is left in it.");
        checks.leads("nothing", at(1, 4, 4), of -> of.duplicate(0, 0), 0, at(1, 4, 4));
        checks.leads("one", at(1, 3, 4), of -> of.duplicate(0, 0), 1, at(1, 3, 4));
        checks.leads("all", at(0, 0, 6), of -> of.duplicate(0, 0), 6, at(0, 0, 6));
        checks.leads("over nothing", Houses.empty('c'), of -> of.duplicate(0, 0), 0, Houses.empty('c'));
        checks.leads("64", Houses.counted('i', 64, NONE, 0, 64), of -> of.duplicate(0, 0), 64,
                Houses.counted('i', 64, NONE, 0, 64));
    }

    private static void duplicateTo() {
        checks.sentence("30: to: the window that it becomes, 0 to 7, perhaps the same");
        for (int to : new int[] {0, 1, 6, 7}) {
            Windowhouse house = at(1, 2, 4).house();
            checks.due("to " + to, house.duplicate(0, to), 2);
            checks.due("its bounds and mark", Checks.boundsOf(house, to) + " " + house.back(to), "2 4 6 1");
        }
        checks.leads("a slice to itself", Houses.then(at(1, 2, 4), house -> house.slice(0, 0)),
                house -> house.duplicate(0, 0), 2, Houses.one('s', NONE, 0, 2, 12, 13));
        checks.sentence("30: " + NO_WINDOWS_OR_TARGET);
        for (int to : OUTSIDE) {
            checks.refuses("to " + to, Houses.furnished(), Checks.BOUNDS, house -> house.duplicate(0, to));
            checks.refuses("of none, to " + to, Windowhouse::new, Checks.BOUNDS, house -> house.duplicate(0, to));
        }
    }

    private static void readOnly() {
        checks.windows(31, NO_WINDOWS_OR_TARGET, (house, window) -> house.readOnly(window, window), 2, 3);
        checks.noWindows(31, NO_WINDOWS_OR_TARGET, (house, window) -> house.readOnly(window, 7));
        checks.sentence("31: Makes a window that only reads of one.");
        Windowhouse house = at(1, 2, 4).house();
        house.readOnly(0, 1);
        checks.due("bounds", Checks.boundsOf(house, 1), "2 4 6");
        checks.due("it only reads", house.isReadOnly(1), true);
        checks.due("the window itself writes", house.isReadOnly(0), false);
        house.put(0, 22);
        checks.due("it is over the same store", Checks.valuesOf(house, 1), "10 11 22 13");
        checks.due("it has the mark", house.back(1), 1);
        checks.leads("of one that only reads", Houses.reader(at(1, 2, 4)), of -> of.readOnly(0, 0), 2,
                Houses.reader(at(1, 2, 4)));
        checks.sentence("31: Returns how much is left in it.");
        checks.leads("nothing", at(1, 4, 4), of -> of.readOnly(0, 0), 0, Houses.reader(at(1, 4, 4)));
        checks.leads("one", at(1, 3, 4), of -> of.readOnly(0, 0), 1, Houses.reader(at(1, 3, 4)));
        checks.leads("all", at(0, 0, 6), of -> of.readOnly(0, 0), 6, Houses.reader(at(0, 0, 6)));
        checks.leads("over nothing", Houses.empty('c'), of -> of.readOnly(0, 0), 0, Houses.reader(Houses.empty('c')));
        checks.due("64", Houses.counted('i', 64, NONE, 0, 64).house().readOnly(0, 7), 64);
    }

    private static void readOnlyTo() {
        checks.sentence("31: to: the window that it becomes, 0 to 7, perhaps the same");
        for (int to : new int[] {0, 1, 6, 7}) {
            Windowhouse house = at(1, 2, 4).house();
            checks.due("to " + to, house.readOnly(0, to), 2);
            checks.due("it only reads", house.isReadOnly(to), true);
            checks.due("its bounds and mark", Checks.boundsOf(house, to) + " " + house.back(to), "2 4 6 1");
        }
        checks.sentence("31: " + NO_WINDOWS_OR_TARGET);
        for (int to : OUTSIDE) {
            checks.refuses("to " + to, Houses.furnished(), Checks.BOUNDS, house -> house.readOnly(0, to));
            checks.refuses("of none, to " + to, Windowhouse::new, Checks.BOUNDS, house -> house.readOnly(0, to));
        }
    }
}
