/** Counts the answers that are not as due; the tests of the project use it. */
final class Checks {
    static final Class<? extends RuntimeException> BOUNDS = IndexOutOfBoundsException.class;
    static final Class<? extends RuntimeException> ARGUMENT = IllegalArgumentException.class;
    static final Class<? extends RuntimeException> STATE = IllegalStateException.class;
    static final Class<? extends RuntimeException> UNSUPPORTED = UnsupportedOperationException.class;
    static final Class<? extends RuntimeException> MISSING = java.util.NoSuchElementException.class;
    static final Class<? extends RuntimeException> ARITHMETIC = ArithmeticException.class;

    /** Windows and rows that no house has. */
    static final int[] NO_WINDOWS = {-1, 8, 9, Integer.MIN_VALUE, Integer.MAX_VALUE};
    static final int[] NO_ROWS = {-1, 2, 3, Integer.MIN_VALUE, Integer.MAX_VALUE};

    private int answers;
    private int wrong;

    /** A call that changes or answers something. */
    interface Call {
        Object answer();
    }

    /** A call of one window. */
    interface WindowCall {
        Object answer(int window);
    }

    void due(String call, Object got, Object want) {
        answers++;
        if (!got.equals(want)) {
            wrong++;
            System.out.println(call + " answered " + got + ", due is " + want);
        }
    }

    /** The very class is due: a subclass would be one that the machine threw. */
    void refused(String call, Windowhouse house, Class<? extends RuntimeException> want, Call refusedCall) {
        String before = stateOf(house);
        Object got;
        try {
            got = refusedCall.answer();
        } catch (RuntimeException e) {
            got = e.getClass();
        }
        due(call, got, want);
        due(call + ", the state after it", stateOf(house), before);
    }

    /** A call of a window that is not there, be it 0 to 7 or not, finds none. */
    void refusedWithoutWindow(String name, WindowCall call, Windowhouse house, int... absent) {
        for (int window : NO_WINDOWS) {
            refused(name + " of window " + window, house, BOUNDS, () -> call.answer(window));
        }
        for (int window : absent) {
            refused(name + " of the absent window " + window, house, BOUNDS, () -> call.answer(window));
        }
    }

    /** What the face shows of a house without a change, but for marks. */
    static String stateOf(Windowhouse house) {
        StringBuilder state = new StringBuilder();
        state.append(house.checksum());
        for (int window = 0; window < 8; window++) {
            char kind = house.kind(window);
            state.append(' ').append(kind);
            if (kind != '-') {
                state.append(house.place(window)).append(',').append(house.end(window)).append(',')
                        .append(house.capacity(window)).append(house.isReadOnly(window) ? 'R' : 'W');
            }
        }
        return state.toString();
    }

    /** All values of a window up to its end. */
    static String valuesOf(Windowhouse house, int window) {
        StringBuilder values = new StringBuilder();
        for (int i = 0; i < house.end(window); i++) {
            values.append(i == 0 ? "" : " ").append(house.getAt(window, i));
        }
        return values.toString();
    }

    /** Place, end and how long it is. */
    static String boundsOf(Windowhouse house, int window) {
        return house.place(window) + " " + house.end(window) + " " + house.capacity(window);
    }

    /** A house whose window 0 is of that kind and holds 10, 11, 12, ..; place 0, end as long as it is. */
    static Windowhouse filled(char kind, int capacity) {
        Windowhouse house = new Windowhouse();
        house.allocate(0, kind, capacity);
        house.fill(0, capacity, 10, 1);
        house.clear(0);
        return house;
    }

    void finish() {
        System.out.println(wrong == 0 ? answers + " answers are as due" : wrong + " answers are not as due");
        if (wrong != 0) {
            System.exit(1);
        }
    }
}
