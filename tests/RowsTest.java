/** Promises 1 to 4: a new object, make, rowAt, rowPut. */
public final class RowsTest {
    private static final Checks checks = new Checks();

    public static void main(String[] args) {
        newObject();
        make();
        makeLeavesWindowsOverTheFormerArray();
        rowAt();
        rowPut();
        checks.finish();
    }

    private static void newObject() {
        Windowhouse house = new Windowhouse();
        for (int window = 0; window < 8; window++) {
            checks.due("kind of new window " + window, house.kind(window), '-');
        }
        for (int row = 0; row < 2; row++) {
            int of = row;
            checks.refused("rowAt of a new row", house, Checks.BOUNDS, () -> house.rowAt(of, 0));
            checks.due("wrap of a new row", new Windowhouse().wrap(0, row), 0);
        }
        checks.refused("meanLeft of a new house", house, Checks.ARITHMETIC, () -> house.meanLeft());
        checks.due("isTrue of a new house", house.isTrue(), true);
    }

    private static void make() {
        Windowhouse house = new Windowhouse();
        checks.due("make(0, 64)", house.make(0, 64), 0);
        checks.due("make(0, 3)", house.make(0, 3), 64);
        checks.due("make(1, 5), the other row", house.make(1, 5), 0);
        house.rowPut(0, 2, 9);
        checks.due("make(0, 3) again", house.make(0, 3), 3);
        checks.due("a row made anew is of 0s", house.rowAt(0, 2), 0);
        checks.due("make(0, 0)", house.make(0, 0), 3);
        checks.due("make(0, 1)", house.make(0, 1), 0);
        for (int row : Checks.NO_ROWS) {
            checks.refused("make of row " + row, house, Checks.BOUNDS, () -> house.make(row, 4));
            checks.refused("make of row " + row + ", bad length", house, Checks.BOUNDS, () -> house.make(row, -1));
        }
        house.rowPut(0, 0, 77);
        for (int length : new int[] {-1, 65, Integer.MIN_VALUE, Integer.MAX_VALUE}) {
            checks.refused("make(0, " + length + ")", house, Checks.ARGUMENT, () -> house.make(0, length));
        }
        checks.due("a refused make leaves the row", house.rowAt(0, 0), 77);
    }

    private static void makeLeavesWindowsOverTheFormerArray() {
        Windowhouse house = new Windowhouse();
        house.make(0, 2);
        house.rowPut(0, 0, 5);
        house.wrap(0, 0);
        house.make(0, 2);
        checks.due("the window keeps the former array", house.getAt(0, 0), 5L);
        house.putAt(0, 0, 6);
        checks.due("the new array is another one", house.rowAt(0, 0), 0);
        house.rowPut(0, 0, 7);
        checks.due("the former array is another one", house.getAt(0, 0), 6L);
    }

    private static void rowAt() {
        Windowhouse house = new Windowhouse();
        house.make(1, 3);
        house.rowPut(1, 2, Integer.MIN_VALUE);
        checks.due("rowAt(1, 2)", house.rowAt(1, 2), Integer.MIN_VALUE);
        checks.due("rowAt(1, 1)", house.rowAt(1, 1), 0);
        for (int place : new int[] {-1, 3, Integer.MIN_VALUE, Integer.MAX_VALUE}) {
            checks.refused("rowAt(1, " + place + ")", house, Checks.BOUNDS, () -> house.rowAt(1, place));
        }
        for (int row : Checks.NO_ROWS) {
            checks.refused("rowAt of row " + row, house, Checks.BOUNDS, () -> house.rowAt(row, 0));
        }
        checks.refused("rowAt of the empty row", house, Checks.BOUNDS, () -> house.rowAt(0, 0));
    }

    private static void rowPut() {
        Windowhouse house = new Windowhouse();
        house.make(0, 2);
        checks.due("rowPut(0, 1, 4)", house.rowPut(0, 1, 4), 0);
        checks.due("rowPut(0, 1, -9)", house.rowPut(0, 1, -9), 4);
        checks.due("rowPut(0, 1, max)", house.rowPut(0, 1, Integer.MAX_VALUE), -9);
        checks.due("rowAt(0, 1)", house.rowAt(0, 1), Integer.MAX_VALUE);
        checks.due("rowAt(0, 0)", house.rowAt(0, 0), 0);
        for (int place : new int[] {-1, 2, Integer.MIN_VALUE, Integer.MAX_VALUE}) {
            checks.refused("rowPut(0, " + place + ")", house, Checks.BOUNDS, () -> house.rowPut(0, place, 1));
        }
        for (int row : Checks.NO_ROWS) {
            checks.refused("rowPut of row " + row, house, Checks.BOUNDS, () -> house.rowPut(row, 0, 1));
        }
        checks.refused("rowPut of the empty row", house, Checks.BOUNDS, () -> house.rowPut(1, 0, 1));
    }
}
