/** The edges that the section "Terms" of the document names, a sentence at a time. */
public final class TermsEdgesTest {
    private static final int MAX = Integer.MAX_VALUE;
    private static final int MIN = Integer.MIN_VALUE;
    private static final int NONE = Houses.NONE;
    private static final char[] KINDS = {'i', 'l', 'c', 's'};

    private static final Checks checks = new Checks();

    public static void main(String[] args) {
        useFor512Calls();
        windows();
        cutting();
        stores();
        takingThePlace();
        placeEndAndMarkOfANewOne();
        placeEndAndMarkOfADuplicate();
        asTheyAreThen();
        readersPassItOn();
        whatIsLeft();
        rows();
        windowsOverTheFormerRow();
        exceptionsChangeNothing();
        theFirstExceptionOfMaking();
        theFirstExceptionOfPlacesAndValues();
        theFirstExceptionOfPouring();
        theFirstExceptionOfSigns();
        checks.finish();
    }

    private static Checks.Plan at(int mark, int place, int end) {
        return Houses.one('i', mark, place, end, 10, 11, 12, 13, 14, 15);
    }

    private static void useFor512Calls() {
        checks.sentence("What it is: An object is used for at most 512 calls after it has been made; what later calls answer"
                + " is free.");
        Windowhouse house = new Windowhouse();
        house.allocate(0, 'l', 64);
        for (int i = 1; i < 255; i++) {
            house.putAt(0, i % 64, i);
            checks.due("round " + i, house.getAt(0, i % 64), (long) i);
        }
        checks.due("the 510th", house.fill(0, 64, 0, 1), 64);
        checks.due("the 511th", house.flip(0), 64);
        checks.due("the 512th", house.getAt(0, 63), 63L);
    }

    private static void windows() {
        checks.sentence("Terms: There are the windows 0 to 7, none at first, each of a kind: 'i' of ints, 'l' of longs, 'c' of"
                + " chars, 's' of shorts.");
        Windowhouse house = new Windowhouse();
        for (int window = 0; window < 8; window++) {
            checks.due("none at first", house.kind(window), '-');
            house.allocate(window, KINDS[window % 4], window);
            checks.due("its kind", house.kind(window), KINDS[window % 4]);
        }
        for (int window = 0; window < 8; window++) {
            checks.due("each is its own", house.capacity(window) + " " + house.kind(window),
                    window + " " + KINDS[window % 4]);
        }
        for (int window : new int[] {-1, 8, MIN, MAX}) {
            checks.refuses("window " + window, Houses.furnished(), Checks.BOUNDS, of -> of.kind(window));
            checks.refuses("window " + window, Houses.furnished(), Checks.BOUNDS, of -> of.allocate(window, 'i', 1));
        }
    }

    private static void cutting() {
        checks.sentence("Terms: A value that is put is cut to the kind, its lowest 32, 64, or 16 bits, of a window of chars its"
                + " lowest 8, without sign; a value that is got is told as a long, a char without sign.");
        long[][] ints = {{MAX, MAX}, {MAX + 1L, MIN}, {MIN, MIN}, {MIN - 1L, MAX}, {-1, -1}, {(1L << 32) - 1, -1},
            {1L << 32, 0}, {(1L << 32) + 1, 1}, {Long.MIN_VALUE, 0}, {Long.MAX_VALUE, -1}};
        long[][] longs = {{Long.MAX_VALUE, Long.MAX_VALUE}, {Long.MIN_VALUE, Long.MIN_VALUE}, {-1, -1},
            {1L << 32, 1L << 32}, {MAX + 1L, MAX + 1L}, {1L << 62, 1L << 62}};
        long[][] chars = {{0, 0}, {127, 127}, {128, 128}, {255, 255}, {256, 0}, {257, 1}, {-1, 255}, {-128, 128},
            {-255, 1}, {-256, 0}, {-257, 255}, {65535, 255}, {65536, 0}, {1L << 32, 0}, {Long.MAX_VALUE, 255}};
        long[][] shorts = {{32767, 32767}, {32768, -32768}, {-32768, -32768}, {-32769, 32767}, {-1, -1}, {65535, -1},
            {65536, 0}, {65537, 1}, {255, 255}, {256, 256}, {1L << 32, 0}, {Long.MAX_VALUE, -1}};
        cuttingOf('i', ints);
        cuttingOf('l', longs);
        cuttingOf('c', chars);
        cuttingOf('s', shorts);
    }

    private static void cuttingOf(char kind, long[][] pairs) {
        for (long[] pair : pairs) {
            Windowhouse house = Houses.one('l', NONE, 0, 1, pair[0]).house();
            Houses.lay(house, 1, kind, 0, 0, 0, 0, 0);
            house.put(1, pair[0]);
            house.putAt(1, 1, pair[0]);
            house.placeAt(1, 2);
            house.fill(1, 1, pair[0], 1);
            house.fill(1, 1, pair[0], 0);
            house.pour(0, 1, 1);
            house.rewind(1);
            String call = "of kind " + kind + ", " + pair[0];
            for (int i = 0; i < 5; i++) {
                checks.due("getAt, " + call, house.getAt(1, i), pair[1]);
                checks.due("get, " + call, house.get(1), pair[1]);
                checks.due("putAt, " + call, house.putAt(1, i, pair[0]), pair[1]);
            }
            house.rewind(0);
            house.rewind(1);
            house.pour(1, 0, 1);
            checks.due("what is poured out, " + call, house.getAt(0, 0), pair[1]);
        }
    }

    private static void stores() {
        checks.sentence("Terms: To allocate makes a window over a new store of 0s; to wrap one of ints over the very array of a"
                + " row; slices, duplicates and windows that only read are over the store of the window that they are made"
                + " of.");
        Windowhouse house = Houses.counted('i', 3, NONE, 0, 3).house();
        house.duplicate(0, 1);
        house.allocate(0, 'i', 3);
        checks.due("a new store", Checks.valuesOf(house, 0) + ", " + Checks.valuesOf(house, 1), "0 0 0, 1 2 3");
        house.make(0, 3);
        house.wrap(0, 0);
        house.wrap(1, 0);
        house.putAt(0, 2, 7);
        checks.due("one array under two windows and a row", house.getAt(1, 2) + " " + house.rowAt(0, 2), "7 7");
        house.placeAt(0, 1);
        house.slice(0, 2);
        house.sliceAt(0, 2, 1, 3);
        house.duplicate(0, 4);
        house.readOnly(0, 5);
        house.rowPut(0, 2, 8);
        checks.due("one array under all", house.getAt(0, 2) + " " + house.getAt(2, 1) + " " + house.getAt(3, 0) + " "
                + house.getAt(4, 2) + " " + house.getAt(5, 2), "8 8 8 8 8");
        house.putAt(3, 0, 9);
        checks.due("a part puts into all", house.rowAt(0, 2) + " " + house.getAt(2, 1) + " " + house.getAt(5, 2), "9 9 9");
    }

    /** A call that makes window 1, of window 0 or row 0 where it needs them. */
    private static final Checks.Act[] MAKERS = {
        house -> house.allocate(1, 'c', 3), house -> house.wrap(1, 0), house -> house.slice(0, 1),
        house -> house.sliceAt(0, 1, 2, 1), house -> house.duplicate(0, 1), house -> house.readOnly(0, 1)};

    private static void takingThePlace() {
        checks.sentence("Terms: A new window takes the place of one that is there.");
        Checks.Plan free = Houses.then(at(1, 2, 4), house -> house.make(0, 2));
        Checks.Act[] formers = {
            house -> house.allocate(1, 'l', 64), house -> house.allocate(1, 's', 0), house -> house.sliceAt(0, 3, 1, 1),
            house -> house.readOnly(0, 1), house -> house.duplicate(0, 1), house -> house.wrap(1, 1)};
        for (int maker = 0; maker < MAKERS.length; maker++) {
            for (Checks.Act former : formers) {
                Checks.Plan taken = Houses.then(free, former, house -> house.mark(1));
                Windowhouse house = taken.house();
                MAKERS[maker].on(house);
                checks.due("maker " + maker, Checks.wholeOf(house),
                        Checks.wholeOf(Houses.then(free, MAKERS[maker]).house()));
            }
        }
    }

    private static final String NEW_ONE = "Terms: A new one has the place 0, its end as long as it is, and no mark, but a"
            + " duplicate, and one that only reads, which have place, end and mark of the window that they are made of, as"
            + " they are then; slices and duplicates of one that only reads only read.";

    private static void placeEndAndMarkOfANewOne() {
        checks.sentence(NEW_ONE);
        String[] bounds = {"0 3 3", "0 2 2", "0 2 2", "0 2 2"};
        for (int maker = 0; maker < 4; maker++) {
            Checks.Plan made = Houses.then(at(1, 2, 4), house -> house.make(0, 2), MAKERS[maker]);
            checks.due("maker " + maker, Checks.boundsOf(made.house(), 1), bounds[maker]);
            checks.refuses("no mark, maker " + maker, made, Checks.STATE, house -> house.back(1));
            checks.due("it writes, maker " + maker, made.house().isReadOnly(1), false);
        }
    }

    private static void placeEndAndMarkOfADuplicate() {
        checks.sentence(NEW_ONE);
        for (int maker = 4; maker < 6; maker++) {
            Checks.Act act = MAKERS[maker];
            Windowhouse house = Houses.then(at(1, 2, 4), act).house();
            checks.due("maker " + maker, Checks.boundsOf(house, 1), "2 4 6");
            checks.due("the mark, maker " + maker, house.back(1), 1);
            house = Houses.then(at(0, 0, 0), act).house();
            checks.due("a mark of 0, maker " + maker, house.back(1), 0);
            checks.refuses("no mark, maker " + maker, Houses.then(at(NONE, 2, 4), act), Checks.STATE, of -> of.back(1));
            house = Houses.then(Houses.empty('c'), act).house();
            checks.due("over nothing, maker " + maker, Checks.boundsOf(house, 1), "0 0 0");
        }
    }

    private static void asTheyAreThen() {
        checks.sentence(NEW_ONE);
        for (int maker = 4; maker < 6; maker++) {
            Windowhouse house = Houses.then(at(1, 2, 4), MAKERS[maker]).house();
            house.endAt(0, 6);
            house.placeAt(0, 5);
            house.mark(0);
            checks.due("the new one stays, maker " + maker, Checks.boundsOf(house, 1) + " " + house.back(1), "2 4 6 1");
            house.clear(1);
            house.endAt(1, 0);
            checks.due("the former one stays, maker " + maker, Checks.boundsOf(house, 0) + " " + house.back(0), "5 6 6 0");
        }
    }

    private static void readersPassItOn() {
        checks.sentence(NEW_ONE);
        for (int maker = 2; maker < 6; maker++) {
            Windowhouse house = Houses.then(Houses.reader(at(1, 2, 4)), MAKERS[maker]).house();
            checks.due("of a reader, maker " + maker, house.isReadOnly(1), true);
            house = Houses.then(at(1, 2, 4), MAKERS[maker]).house();
            checks.due("of a writer, maker " + maker, house.isReadOnly(1), maker == 5);
            house = Houses.then(Houses.reader(Houses.empty('s')), of -> of.slice(0, 1), of -> of.duplicate(1, 2),
                    of -> of.sliceAt(2, 0, 0, 3)).house();
            checks.due("over nothing", house.isReadOnly(1) && house.isReadOnly(2) && house.isReadOnly(3), true);
        }
    }

    private static void whatIsLeft() {
        checks.sentence("Terms: What is taken from the place on, up to the end, is left.");
        for (int place = 0; place <= 6; place++) {
            for (int end = place; end <= 6; end++) {
                Windowhouse house = at(NONE, place, end).house();
                checks.due("left", house.left(0), end - place);
                checks.due("hasLeft", house.hasLeft(0), place < end);
                checks.due("a slice", house.slice(0, 1), end - place);
                checks.due("the mean", house.meanLeft(), (double) (end - place));
                for (int i = place; i < end; i++) {
                    checks.due("get", house.get(0), 10L + i);
                }
                checks.due("nothing more", house.hasLeft(0), false);
            }
        }
    }

    private static final String ROWS = "Terms: There are the rows 0 and 1, arrays of 0 to 64 ints, empty at first; to make one"
            + " gives it a new array, windows over the former one staying there.";

    private static void rows() {
        checks.sentence(ROWS);
        for (int row = 0; row < 2; row++) {
            int of = row;
            checks.refuses("empty at first", Windowhouse::new, Checks.BOUNDS, house -> house.rowAt(of, 0));
            checks.refuses("65 ints", Houses.furnished(), Checks.ARGUMENT, house -> house.make(of, 65));
            checks.refuses("-1 ints", Houses.furnished(), Checks.ARGUMENT, house -> house.make(of, -1));
            Windowhouse house = new Windowhouse();
            checks.due("64 ints", house.make(row, 64) + house.make(row, 0), 64);
            checks.due("0 ints", house.make(row, 64), 0);
            checks.due("the last int", house.rowPut(row, 63, MIN) + house.rowAt(row, 63), MIN);
        }
        checks.refuses("row -1", Houses.furnished(), Checks.BOUNDS, house -> house.rowAt(-1, 0));
        checks.refuses("row 2", Houses.furnished(), Checks.BOUNDS, house -> house.rowAt(2, 0));
    }

    private static void windowsOverTheFormerRow() {
        checks.sentence(ROWS);
        for (int length : new int[] {0, 1, 2, 3, 64}) {
            Windowhouse house = new Windowhouse();
            house.make(1, 2);
            house.rowPut(1, 1, 5);
            house.wrap(0, 1);
            house.placeAt(0, 1);
            house.slice(0, 1);
            house.readOnly(0, 2);
            house.make(1, length);
            checks.due("they stay", Checks.valuesOf(house, 0) + ", " + Checks.valuesOf(house, 1), "0 5, 5");
            house.putAt(1, 0, 6);
            checks.due("they stay over one another", house.getAt(0, 1) + " " + house.getAt(2, 1), "6 6");
            for (int i = 0; i < length; i++) {
                checks.due("the new array is another", house.rowPut(1, i, 9), 0);
            }
            checks.due("the former array is another", Checks.valuesOf(house, 0), "0 6");
            checks.due("a new window is over the new one", house.wrap(0, 1), length);
        }
    }

    /** Each call is refused in the furnished house, each exception of each method once at least. */
    private static final Checks.Act[] REFUSED = {
        house -> house.make(2, 1), house -> house.make(0, 65), house -> house.rowAt(0, 2), house -> house.rowPut(0, 2, 7),
        house -> house.allocate(8, 'i', 1), house -> house.allocate(0, 'x', 1), house -> house.allocate(0, 'i', 65),
        house -> house.wrap(8, 0), house -> house.wrap(0, 2), house -> house.kind(8), house -> house.placeAt(0, 5),
        house -> house.endAt(0, 6), house -> house.back(4), house -> house.compact(3), house -> house.get(2),
        house -> house.put(3, 1), house -> house.put(2, 1), house -> house.getAt(0, 4), house -> house.putAt(0, 4, 1),
        house -> house.putAt(3, 0, 1), house -> house.fill(0, -1, 1, 1), house -> house.fill(3, 1, 1, 1),
        house -> house.fill(0, 3, 1, 1), house -> house.pour(0, 0, 1), house -> house.pour(0, 1, -1),
        house -> house.pour(0, 3, 1), house -> house.pour(0, 5, 3), house -> house.pour(5, 0, 3),
        house -> house.slice(0, 8), house -> house.sliceAt(0, 0, 5, 1), house -> house.sliceAt(0, 0, 1, 8),
        house -> house.duplicate(0, 8), house -> house.readOnly(0, 8), house -> house.signAt(0, 0),
        house -> house.signAt(1, 2), house -> house.signsLeft(0), house -> house.append(0, 'x'),
        house -> house.append(3, 'x'), house -> house.text(0), house -> house.isAlike(0, 8), house -> house.fullShare(8)};

    private static void exceptionsChangeNothing() {
        checks.sentence("Terms: A method that throws an exception changes nothing.");
        String whole = Checks.wholeOf(Houses.furnished().house());
        for (int i = 0; i < REFUSED.length; i++) {
            Windowhouse house = Houses.furnished().house();
            boolean thrown = false;
            try {
                REFUSED[i].on(house);
            } catch (RuntimeException e) {
                thrown = true;
            }
            checks.due("call " + i + " is refused", thrown, true);
            checks.due("the house behind call " + i, Checks.wholeOf(house), whole);
        }
        Checks.Plan full = Houses.one('c', NONE, 2, 2, 1, 2);
        checks.refuses("append", full, Checks.STATE, house -> house.append(0, 'x'));
        checks.refuses("fullShare", Houses.empty('c'), Checks.ARITHMETIC, house -> house.fullShare(0));
        checks.refuses("meanLeft", Windowhouse::new, Checks.ARITHMETIC, house -> house.meanLeft());
    }

    private static final String FIRST =
            "Terms: If several exceptions apply, the one that is documented first is thrown.";

    private static void theFirstExceptionOfMaking() {
        checks.sentence(FIRST);
        checks.refuses("make, row and length", Houses.furnished(), Checks.BOUNDS, house -> house.make(2, 65));
        checks.refuses("make, row and length", Houses.furnished(), Checks.BOUNDS, house -> house.make(-1, -1));
        checks.refuses("allocate, window and kind", Houses.furnished(), Checks.BOUNDS,
                house -> house.allocate(8, 'x', 1));
        checks.refuses("allocate, window and length", Houses.furnished(), Checks.BOUNDS,
                house -> house.allocate(-1, 'i', 65));
        checks.refuses("allocate, all", Houses.furnished(), Checks.BOUNDS, house -> house.allocate(8, 'x', -1));
        checks.refuses("allocate, kind and length", Houses.furnished(), Checks.ARGUMENT,
                house -> house.allocate(0, 'x', -1));
    }

    private static void theFirstExceptionOfPlacesAndValues() {
        checks.sentence(FIRST);
        Checks.Plan fullReader = Houses.reader(at(1, 4, 4));
        for (int window : new int[] {-1, 8, 6}) {
            checks.refuses("placeAt", fullReader, Checks.BOUNDS, house -> house.placeAt(window, -1));
            checks.refuses("endAt", fullReader, Checks.BOUNDS, house -> house.endAt(window, 65));
            checks.refuses("back", fullReader, Checks.BOUNDS, house -> house.back(window));
            checks.refuses("get", fullReader, Checks.BOUNDS, house -> house.get(window));
            checks.refuses("put", fullReader, Checks.BOUNDS, house -> house.put(window, 1));
            checks.refuses("putAt", fullReader, Checks.BOUNDS, house -> house.putAt(window, 0, 1));
            checks.refuses("fill -1", fullReader, Checks.BOUNDS, house -> house.fill(window, -1, 1, 1));
            checks.refuses("fill 65", fullReader, Checks.BOUNDS, house -> house.fill(window, 65, 1, 1));
            checks.refuses("signAt", fullReader, Checks.BOUNDS, house -> house.signAt(window, -1));
            checks.refuses("append", fullReader, Checks.BOUNDS, house -> house.append(window, 'x'));
            checks.refuses("fullShare", fullReader, Checks.BOUNDS, house -> house.fullShare(window));
        }
        checks.refuses("put, a reader with nothing left", fullReader, Checks.UNSUPPORTED, house -> house.put(0, 1));
        checks.refuses("putAt, a reader without the place", fullReader, Checks.BOUNDS, house -> house.putAt(0, 4, 1));
        checks.refuses("fill, -1 into a reader", fullReader, Checks.ARGUMENT, house -> house.fill(0, -1, 1, 1));
        checks.refuses("fill, too many into a reader", fullReader, Checks.UNSUPPORTED, house -> house.fill(0, 1, 1, 1));
    }

    private static void theFirstExceptionOfPouring() {
        checks.sentence(FIRST);
        // Window 0 has two left, window 1 none; 2 is a reader of the one, 3 of the other; 4 is not there.
        Checks.Plan plan = Houses.then(at(1, 2, 4), house -> house.allocate(1, 'i', 0), house -> house.readOnly(0, 2),
                house -> house.readOnly(1, 3));
        checks.refuses("no window, both the same", plan, Checks.BOUNDS, house -> house.pour(4, 4, 1));
        checks.refuses("no window, -1", plan, Checks.BOUNDS, house -> house.pour(4, 0, -1));
        checks.refuses("no other window, -1", plan, Checks.BOUNDS, house -> house.pour(0, 4, -1));
        checks.refuses("no window, a reader", plan, Checks.BOUNDS, house -> house.pour(4, 2, 1));
        checks.refuses("no other window, too many", plan, Checks.BOUNDS, house -> house.pour(0, 4, 9));
        checks.refuses("both the same reader", plan, Checks.ARGUMENT, house -> house.pour(2, 2, 1));
        checks.refuses("both the same, too many", plan, Checks.ARGUMENT, house -> house.pour(0, 0, 9));
        checks.refuses("both the same, -1", plan, Checks.ARGUMENT, house -> house.pour(0, 0, -1));
        checks.refuses("-1 into a reader", plan, Checks.ARGUMENT, house -> house.pour(0, 2, -1));
        checks.refuses("a reader, too many in the first", plan, Checks.UNSUPPORTED, house -> house.pour(1, 2, 1));
        checks.refuses("a reader, too many in the other", plan, Checks.UNSUPPORTED, house -> house.pour(0, 3, 1));
        checks.refuses("a reader, too many in both", plan, Checks.UNSUPPORTED, house -> house.pour(0, 3, 9));
        checks.refuses("too many in both", plan, Checks.MISSING, house -> house.pour(0, 1, 3));
        checks.refuses("too many in the other alone", plan, Checks.STATE, house -> house.pour(0, 1, 2));
    }

    private static void theFirstExceptionOfSigns() {
        checks.sentence(FIRST);
        Checks.Plan full = at(1, 4, 4);
        checks.refuses("signAt, ints with nothing left", full, Checks.UNSUPPORTED, house -> house.signAt(0, 0));
        checks.refuses("signAt, ints below 0", full, Checks.UNSUPPORTED, house -> house.signAt(0, -1));
        checks.refuses("append, ints with nothing left", full, Checks.UNSUPPORTED, house -> house.append(0, 'x'));
        Checks.Plan fullChars = Houses.one('c', NONE, 2, 2, 97, 98);
        checks.refuses("append, a reader with nothing left", Houses.reader(fullChars), Checks.UNSUPPORTED,
                house -> house.append(0, 'x'));
        checks.refuses("append, chars with nothing left", fullChars, Checks.STATE, house -> house.append(0, 'x'));
    }
}
