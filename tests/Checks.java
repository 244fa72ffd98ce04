import java.util.LinkedHashSet;
import java.util.Set;

/** Counts the answers that are not as due; the tests of the project use it. */
final class Checks {
    static final Class<? extends RuntimeException> BOUNDS = IndexOutOfBoundsException.class;
    static final Class<? extends RuntimeException> ARGUMENT = IllegalArgumentException.class;
    static final Class<? extends RuntimeException> STATE = IllegalStateException.class;
    static final Class<? extends RuntimeException> UNSUPPORTED = UnsupportedOperationException.class;
    static final Class<? extends RuntimeException> MISSING = java.util.NoSuchElementException.class;
    static final Class<? extends RuntimeException> ARITHMETIC = ArithmeticException.class;

    /** Windows and rows that no house has. */
    static final int[] NO_WINDOWS = {-1, 8, 9, Integer.MIN_VALUE, Integer.MAX_VALUE};
    static final int[] NO_ROWS = {-1, 2, 3, Integer.MIN_VALUE, Integer.MAX_VALUE};

    /** Any whole number outside those that are told here is as far outside as these. */
    private static final int[] WINDOWS_NOT_THERE = {-1, 8, Integer.MIN_VALUE, Integer.MAX_VALUE, 1, 6};

    /** Every sentence of the document that a test has named in this run, whichever test it was. */
    private static final Set<String> named = new LinkedHashSet<>();

    private String sentence = "";
    private int answers;
    private int wrong;

    /** A way to make a house, the same one each time. */
    interface Plan {
        Windowhouse house();
    }

    /** A call of a house that is handed in. */
    interface Act {
        Object on(Windowhouse house);
    }

    /** A call of one window of a house that is handed in. */
    interface WindowAct {
        Object on(Windowhouse house, int window);
    }

    /** A call that changes or answers something. */
    interface Call {
        Object answer();
    }

    /** A call of one window. */
    interface WindowCall {
        Object answer(int window);
    }

    static Set<String> namedSentences() {
        return named;
    }

    /** What is checked from here on is about this sentence of the document: its promise, then its words. */
    void sentence(String words) {
        sentence = words + " | ";
        named.add(words);
    }

    void due(String call, Object got, Object want) {
        answers++;
        if (!got.equals(want)) {
            wrong++;
            System.out.println(sentence + call + " answered " + got + ", due is " + want);
        }
    }

    /** The act answers that, and the house is then, in all that can be told of it, one made by the other plan. */
    void leads(String call, Plan from, Act act, Object want, Plan to) {
        Windowhouse house = from.house();
        due(call, answerOf(() -> act.on(house)), want);
        due(call + ", the house behind it", wholeOf(house), wholeOf(to.house()));
    }

    /** The act answers that, and changes nothing. */
    void tells(String call, Plan from, Act act, Object want) {
        leads(call, from, act, want, from);
    }

    /** The act throws that, and changes nothing. */
    void refuses(String call, Plan from, Class<? extends RuntimeException> want, Act act) {
        leads(call, from, act, want, from);
    }

    /**
     * A call of one window answers so for 0 and for 7 of Houses.firstAndLast, just inside, and finds no window just
     * outside, nor one of 0 to 7 that is not there.
     */
    void windows(int promise, String thrown, WindowAct act, Object ofFirst, Object ofLast) {
        sentence(promise + ": window: the window");
        due("of window 0", answerOf(() -> act.on(Houses.firstAndLast().house(), 0)), ofFirst);
        due("of window 7", answerOf(() -> act.on(Houses.firstAndLast().house(), 7)), ofLast);
        noWindows(promise, thrown, act);
    }

    void noWindows(int promise, String thrown, WindowAct act) {
        sentence(promise + ": " + thrown);
        for (int window : WINDOWS_NOT_THERE) {
            refuses("of window " + window, Houses.firstAndLast(), BOUNDS, house -> act.on(house, window));
        }
        refuses("of window 0 in a new house", Windowhouse::new, BOUNDS, house -> act.on(house, 0));
    }

    /** The answer, or the very class that is thrown: a subclass would be one that the machine threw. */
    private static Object answerOf(Call call) {
        try {
            return call.answer();
        } catch (RuntimeException e) {
            return e.getClass();
        }
    }

    /** Looks at the sum over all alone, since one house may be called no more than 512 times. */
    void refused(String call, Windowhouse house, Class<? extends RuntimeException> want, Call refusedCall) {
        long before = house.checksum();
        due(call, answerOf(refusedCall), want);
        due(call + ", the sum over all behind it", house.checksum(), before);
    }

    /** A call of a window that is not there, be it 0 to 7 or not, finds none. */
    void refusedWithoutWindow(String name, WindowCall call, Windowhouse house, int... absent) {
        for (int window : NO_WINDOWS) {
            refused(name + " of window " + window, house, BOUNDS, () -> call.answer(window));
        }
        for (int window : absent) {
            refused(name + " of the absent window " + window, house, BOUNDS, () -> call.answer(window));
        }
    }

    /** What the face shows of a house without a change, but for marks. */
    static String stateOf(Windowhouse house) {
        StringBuilder state = new StringBuilder();
        state.append(house.checksum());
        for (int window = 0; window < 8; window++) {
            char kind = house.kind(window);
            state.append(' ').append(kind);
            if (kind != '-') {
                state.append(house.place(window)).append(',').append(house.end(window)).append(',')
                        .append(house.capacity(window)).append(house.isReadOnly(window) ? 'R' : 'W');
            }
        }
        return state.toString();
    }

    /**
     * All that calls can tell of a house: marks, values behind the ends, and which windows and rows lie over one
     * another. The house is used up by it.
     */
    static String wholeOf(Windowhouse house) {
        StringBuilder whole = new StringBuilder();
        for (int window = 0; window < 8; window++) {
            whole.append(house.kind(window));
            if (house.kind(window) != '-') {
                addBoundsAndMark(whole, house, window);
                house.clear(window);
            }
        }
        addValues(whole, house);
        // The last of the windows over a cell leaves its number there, and all that lie over it show that.
        for (int window = 0; window < 8; window++) {
            putNumbersOfItsOwn(house, window);
        }
        addValues(whole, house);
        return whole.toString();
    }

    private static void addBoundsAndMark(StringBuilder whole, Windowhouse house, int window) {
        whole.append(house.isReadOnly(window) ? " reads, " : " writes, ").append(boundsOf(house, window));
        try {
            whole.append(", back by ").append(house.back(window)).append("; ");
        } catch (IllegalStateException e) {
            whole.append(", no mark; ");
        }
    }

    private static void addValues(StringBuilder whole, Windowhouse house) {
        for (int window = 0; window < 8; window++) {
            if (house.kind(window) != '-') {
                whole.append(" w").append(window).append(' ').append(valuesOf(house, window));
            }
        }
        for (int row = 0; row < 2; row++) {
            whole.append(" r").append(row);
            addNumbers(whole, house, row);
        }
    }

    private static void addNumbers(StringBuilder whole, Windowhouse house, int row) {
        try {
            for (int i = 0; i < 70; i++) {
                whole.append(' ').append(house.rowAt(row, i));
            }
        } catch (IndexOutOfBoundsException e) {
            whole.append('.');
        }
    }

    private static void putNumbersOfItsOwn(Windowhouse house, int window) {
        if (house.kind(window) == '-' || house.isReadOnly(window)) {
            return;
        }
        int capacity = house.capacity(window);
        for (int i = 0; i < capacity; i++) {
            house.putAt(window, i, 67 * window + i + 1);
        }
    }

    /** All values of a window up to its end. */
    static String valuesOf(Windowhouse house, int window) {
        StringBuilder values = new StringBuilder();
        int end = house.end(window);
        for (int i = 0; i < end; i++) {
            values.append(i == 0 ? "" : " ").append(house.getAt(window, i));
        }
        return values.toString();
    }

    /** Place, end and how long it is. */
    static String boundsOf(Windowhouse house, int window) {
        return house.place(window) + " " + house.end(window) + " " + house.capacity(window);
    }

    /** A house whose window 0 is of that kind and holds 10, 11, 12, ..; place 0, end as long as it is. */
    static Windowhouse filled(char kind, int capacity) {
        Windowhouse house = new Windowhouse();
        house.allocate(0, kind, capacity);
        house.fill(0, capacity, 10, 1);
        house.clear(0);
        return house;
    }

    void finish() {
        System.out.println(wrong == 0 ? answers + " answers are as due" : wrong + " answers are not as due");
        if (wrong != 0) {
            System.exit(1);
        }
    }
}
