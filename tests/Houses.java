/** Plans of houses that the tests of the edges start from and end at. */
final class Houses {
    /** No mark. */
    static final int NONE = -1;

    private Houses() {
    }

    /** A house whose window 0 is of that kind and over those values. */
    static Checks.Plan one(char kind, int mark, int place, int end, long... values) {
        return () -> {
            Windowhouse house = new Windowhouse();
            lay(house, 0, kind, values);
            set(house, 0, mark, place, end);
            return house;
        };
    }

    /** A house whose window 0 is of that kind and over 1, 2, 3, .. */
    static Checks.Plan counted(char kind, int capacity, int mark, int place, int end) {
        return () -> {
            Windowhouse house = new Windowhouse();
            house.allocate(0, kind, capacity);
            house.fill(0, capacity, 1, 1);
            set(house, 0, mark, place, end);
            return house;
        };
    }

    /** A house whose window 0 is over nothing. */
    static Checks.Plan empty(char kind) {
        return counted(kind, 0, NONE, 0, 0);
    }

    /** The house of another plan after some more calls. */
    static Checks.Plan then(Checks.Plan plan, Checks.Act... acts) {
        return () -> {
            Windowhouse house = plan.house();
            for (Checks.Act act : acts) {
                act.on(house);
            }
            return house;
        };
    }

    /** The same, but window 0 only reads. */
    static Checks.Plan reader(Checks.Plan plan) {
        return then(plan, house -> house.readOnly(0, 0));
    }

    /** The first and the last window, both of chars, as every method may be asked of those. */
    static Checks.Plan firstAndLast() {
        return then(one('c', 1, 2, 4, 1, 2, 3, 4, 5, 6), house -> {
            lay(house, 7, 'c', 11, 12, 13, 14, 15, 16, 17, 18);
            set(house, 7, 2, 4, 7);
            return house;
        });
    }

    /** All eight windows: of each kind, over rows, over one another, and such as only read; windows 6 and 7 are full. */
    static Checks.Plan furnished() {
        return () -> {
            Windowhouse house = new Windowhouse();
            layRows(house);
            lay(house, 0, 'l', Long.MIN_VALUE, -1, 2, 3, Long.MAX_VALUE);
            set(house, 0, 1, 2, 4);
            lay(house, 1, 'c', 0, 97, 255, 98);
            set(house, 1, 0, 1, 3);
            lay(house, 2, 's', 7, -7, 8);
            set(house, 2, 2, 2, 2);
            house.readOnly(1, 3);
            house.slice(0, 4);
            house.duplicate(5, 6);
            house.placeAt(6, 3);
            house.readOnly(6, 7);
            return house;
        };
    }

    /** Window 5 stays over the former array of row 0. */
    private static void layRows(Windowhouse house) {
        house.make(0, 3);
        house.rowPut(0, 0, 5);
        house.rowPut(0, 2, Integer.MIN_VALUE);
        house.wrap(5, 0);
        house.make(0, 2);
        house.rowPut(0, 1, 9);
        house.make(1, 1);
        house.rowPut(1, 0, -4);
    }

    static void lay(Windowhouse house, int window, char kind, long... values) {
        house.allocate(window, kind, values.length);
        for (int i = 0; i < values.length; i++) {
            house.putAt(window, i, values[i]);
        }
    }

    /** For a window whose end is as far as it goes. */
    static void set(Windowhouse house, int window, int mark, int place, int end) {
        house.clear(window);
        if (mark != NONE) {
            house.placeAt(window, mark);
            house.mark(window);
        }
        house.placeAt(window, place);
        house.endAt(window, end);
    }
}
