/** Promises 5 to 8 and 28 to 31: allocate, wrap, kind, capacity, slice, sliceAt, duplicate, readOnly. */
public final class MakingTest {
    private static final Checks checks = new Checks();

    public static void main(String[] args) {
        allocate();
        allocateRefuses();
        wrap();
        kindAndCapacity();
        slice();
        sliceOverItself();
        sliceAt();
        sliceAtRefuses();
        duplicate();
        readOnly();
        onlyReadingIsPassedOn();
        aNewWindowHasNoMark();
        aNewStoreInPlaceOfASlice();
        targetsAreChecked();
        checks.finish();
    }

    private static void allocate() {
        Windowhouse house = new Windowhouse();
        char[] kinds = {'i', 'l', 'c', 's'};
        for (int i = 0; i < 4; i++) {
            checks.due("allocate " + kinds[i], house.allocate(i + 4, kinds[i], i * 21), false);
            checks.due("kind", house.kind(i + 4), kinds[i]);
            checks.due("bounds", Checks.boundsOf(house, i + 4), "0 " + i * 21 + " " + i * 21);
            checks.due("isReadOnly", house.isReadOnly(i + 4), false);
        }
        checks.due("allocate(0, l, 64)", house.allocate(0, 'l', 64), false);
        house.fill(0, 64, 1, 1);
        house.duplicate(0, 1);
        checks.due("allocate over a window", house.allocate(0, 'l', 64), true);
        checks.due("a new store is of 0s", house.getAt(0, 63), 0L);
        checks.due("the former store stays", house.getAt(1, 63), 64L);
        house.readOnly(0, 0);
        house.allocate(0, 's', 2);
        checks.due("a new store over one that only reads", house.isReadOnly(0), false);
    }

    private static void allocateRefuses() {
        Windowhouse house = Checks.filled('i', 3);
        for (int window : Checks.NO_WINDOWS) {
            checks.refused("allocate " + window, house, Checks.BOUNDS, () -> house.allocate(window, 'i', 3));
            checks.refused("allocate " + window + " ?", house, Checks.BOUNDS, () -> house.allocate(window, '?', -1));
        }
        for (int length : new int[] {-1, 65, Integer.MIN_VALUE, Integer.MAX_VALUE}) {
            checks.refused("allocate " + length, house, Checks.ARGUMENT, () -> house.allocate(0, 'i', length));
            checks.refused("allocate " + length, house, Checks.ARGUMENT, () -> house.allocate(1, 'c', length));
        }
        for (char kind : new char[] {'-', 'I', 'b', 'd', 0, 'i' + 256, 65535}) {
            checks.refused("allocate " + kind, house, Checks.ARGUMENT, () -> house.allocate(0, kind, 3));
        }
    }

    private static void wrap() {
        Windowhouse house = new Windowhouse();
        house.make(1, 3);
        house.rowPut(1, 1, -4);
        checks.due("wrap(2, 1)", house.wrap(2, 1), 3);
        checks.due("wrap(3, 0), an empty row", house.wrap(3, 0), 0);
        checks.due("kind", house.kind(2), 'i');
        checks.due("bounds", Checks.boundsOf(house, 2), "0 3 3");
        checks.due("isReadOnly", house.isReadOnly(2), false);
        checks.due("the row's number", house.getAt(2, 1), -4L);
        house.putAt(2, 2, (1L << 32) + 8);
        checks.due("what the window puts is in the row", house.rowAt(1, 2), 8);
        house.rowPut(1, 0, 3);
        checks.due("what the row puts is in the window", house.getAt(2, 0), 3L);
        house.endAt(2, 1);
        house.readOnly(2, 2);
        checks.due("wrap over a window", house.wrap(2, 1), 3);
        checks.due("bounds anew", Checks.boundsOf(house, 2), "0 3 3");
        checks.due("it writes anew", house.isReadOnly(2), false);
        for (int window : Checks.NO_WINDOWS) {
            checks.refused("wrap " + window, house, Checks.BOUNDS, () -> house.wrap(window, 0));
        }
        for (int row : Checks.NO_ROWS) {
            checks.refused("wrap of row " + row, house, Checks.BOUNDS, () -> house.wrap(2, row));
        }
    }

    private static void kindAndCapacity() {
        Windowhouse house = Checks.filled('s', 5);
        checks.due("kind(0)", house.kind(0), 's');
        checks.due("kind(7)", house.kind(7), '-');
        for (int window : Checks.NO_WINDOWS) {
            checks.refused("kind " + window, house, Checks.BOUNDS, () -> house.kind(window));
        }
        house.endAt(0, 2);
        house.placeAt(0, 1);
        checks.due("capacity is not the end", house.capacity(0), 5);
        house.slice(0, 1);
        checks.due("capacity of a slice", house.capacity(1), 1);
        checks.refusedWithoutWindow("capacity", house::capacity, house, 2, 7);
    }

    private static void slice() {
        Windowhouse house = Checks.filled('l', 6);
        house.placeAt(0, 2);
        house.endAt(0, 5);
        checks.due("slice(0, 7)", house.slice(0, 7), 3);
        checks.due("kind", house.kind(7), 'l');
        checks.due("bounds", Checks.boundsOf(house, 7), "0 3 3");
        checks.due("values", Checks.valuesOf(house, 7), "12 13 14");
        checks.due("the window stays", Checks.boundsOf(house, 0), "2 5 6");
        house.putAt(7, 1, -1);
        checks.due("the slice puts into the store", house.getAt(0, 3), -1L);
        house.putAt(0, 2, -2);
        checks.due("the window puts into the slice", house.getAt(7, 0), -2L);
        house.placeAt(7, 1);
        checks.due("slice of a slice", house.slice(7, 6), 2);
        checks.due("its values", Checks.valuesOf(house, 6), "-1 14");
        house.placeAt(6, 2);
        checks.due("slice of nothing", house.slice(6, 5), 0);
        checks.due("bounds of nothing", Checks.boundsOf(house, 5), "0 0 0");
        checks.refusedWithoutWindow("slice", window -> house.slice(window, 0), house, 1, 4);
    }

    private static void sliceOverItself() {
        Windowhouse house = Checks.filled('i', 6);
        house.duplicate(0, 1);
        house.placeAt(0, 1);
        checks.due("slice(0, 0)", house.slice(0, 0), 5);
        house.placeAt(0, 2);
        checks.due("slice(0, 0) again", house.slice(0, 0), 3);
        checks.due("bounds", Checks.boundsOf(house, 0), "0 3 3");
        checks.due("values", Checks.valuesOf(house, 0), "13 14 15");
        checks.due("sliceAt(0, 1, 1, 0)", house.sliceAt(0, 1, 1, 0), 1);
        checks.due("value", Checks.valuesOf(house, 0), "14");
        house.put(0, 99);
        checks.due("the store is the same", Checks.valuesOf(house, 1), "10 11 12 13 99 15");
    }

    private static void sliceAt() {
        Windowhouse house = Checks.filled('c', 6);
        house.endAt(0, 5);
        house.placeAt(0, 4);
        checks.due("sliceAt ahead of the place", house.sliceAt(0, 1, 2, 3), 2);
        checks.due("kind", house.kind(3), 'c');
        checks.due("bounds", Checks.boundsOf(house, 3), "0 2 2");
        checks.due("values", Checks.valuesOf(house, 3), "11 12");
        checks.due("the window stays", Checks.boundsOf(house, 0), "4 5 6");
        checks.due("sliceAt of all", house.sliceAt(0, 0, 5, 4), 5);
        checks.due("sliceAt of nothing at the end", house.sliceAt(0, 5, 0, 5), 0);
        checks.due("sliceAt of a slice", house.sliceAt(3, 1, 1, 6), 1);
        checks.due("its value", house.getAt(6, 0), 12L);
        house.append(6, 'z');
        checks.due("the slice puts into the store", house.getAt(0, 2), (long) 'z');
    }

    private static void sliceAtRefuses() {
        Windowhouse house = Checks.filled('i', 6);
        house.endAt(0, 4);
        int[][] parts = {{-1, 0}, {-1, 2}, {5, 0}, {5, -1}, {0, 5}, {4, 1}, {2, 3}, {0, -1}, {4, -1},
            {Integer.MAX_VALUE, 1}, {1, Integer.MAX_VALUE}, {Integer.MIN_VALUE, Integer.MIN_VALUE},
            {Integer.MIN_VALUE, 0}, {0, Integer.MIN_VALUE}, {Integer.MAX_VALUE, Integer.MIN_VALUE}};
        for (int[] part : parts) {
            checks.refused("sliceAt " + part[0] + " " + part[1], house, Checks.BOUNDS,
                    () -> house.sliceAt(0, part[0], part[1], 1));
            checks.refused("sliceAt itself " + part[0] + " " + part[1], house, Checks.BOUNDS,
                    () -> house.sliceAt(0, part[0], part[1], 0));
        }
        checks.refusedWithoutWindow("sliceAt", window -> house.sliceAt(window, 0, 0, 0), house, 1, 7);
    }

    private static void duplicate() {
        Windowhouse house = Checks.filled('s', 6);
        house.placeAt(0, 1);
        house.mark(0);
        house.placeAt(0, 2);
        house.endAt(0, 5);
        checks.due("duplicate(0, 1)", house.duplicate(0, 1), 3);
        checks.due("kind", house.kind(1), 's');
        checks.due("bounds", Checks.boundsOf(house, 1), "2 5 6");
        checks.due("isReadOnly", house.isReadOnly(1), false);
        house.get(1);
        house.endAt(1, 6);
        checks.due("each has its own place and end", Checks.boundsOf(house, 0), "2 5 6");
        checks.due("the mark comes along", house.back(1), 2);
        house.mark(0);
        house.placeAt(1, 6);
        checks.due("each has its own mark", house.back(1), 5);
        house.put(1, 44);
        checks.due("the store is the same", house.getAt(0, 1), 44L);
        checks.due("duplicate(0, 0)", house.duplicate(0, 0), 3);
        checks.due("bounds of itself", Checks.boundsOf(house, 0), "2 5 6");
        checks.due("its mark stays", house.back(0), 0);
        checks.refusedWithoutWindow("duplicate", window -> house.duplicate(window, 0), house, 2, 7);
    }

    private static void readOnly() {
        Windowhouse house = Checks.filled('i', 6);
        house.placeAt(0, 1);
        house.mark(0);
        house.placeAt(0, 4);
        house.endAt(0, 5);
        checks.due("readOnly(0, 1)", house.readOnly(0, 1), 1);
        checks.due("bounds", Checks.boundsOf(house, 1), "4 5 6");
        checks.due("it only reads", house.isReadOnly(1), true);
        checks.due("the other one writes", house.isReadOnly(0), false);
        checks.due("kind", house.kind(1), 'i');
        checks.due("the mark comes along", house.back(1), 3);
        checks.refused("put", house, Checks.UNSUPPORTED, () -> house.put(1, 1));
        house.put(0, 7);
        checks.due("the store is the same", house.getAt(1, 4), 7L);
        checks.due("readOnly(0, 0)", house.readOnly(0, 0), 0);
        checks.due("itself only reads", house.isReadOnly(0), true);
        checks.due("bounds of itself", Checks.boundsOf(house, 0), "5 5 6");
        checks.due("its mark stays", house.back(0), 4);
        checks.refusedWithoutWindow("readOnly", window -> house.readOnly(window, 0), house, 2, 7);
    }

    private static void onlyReadingIsPassedOn() {
        Windowhouse house = Checks.filled('i', 4);
        house.readOnly(0, 1);
        house.slice(1, 2);
        house.sliceAt(1, 1, 2, 3);
        house.duplicate(1, 4);
        house.readOnly(1, 5);
        for (int window = 1; window <= 5; window++) {
            int of = window;
            checks.due("isReadOnly(" + window + ")", house.isReadOnly(window), true);
            checks.refused("put(" + window + ")", house, Checks.UNSUPPORTED, () -> house.put(of, 1));
        }
        house.slice(0, 6);
        house.sliceAt(0, 1, 2, 7);
        house.duplicate(0, 1);
        for (int window : new int[] {6, 7, 1}) {
            checks.due("isReadOnly(" + window + ")", house.isReadOnly(window), false);
        }
    }

    private static void aNewWindowHasNoMark() {
        Windowhouse house = Checks.filled('i', 4);
        house.make(0, 4);
        for (int i = 0; i < 4; i++) {
            int way = i;
            house.allocate(1, 'i', 4);
            house.mark(1);
            house.mark(0);
            switch (way) {
                case 0: house.allocate(1, 'i', 4); break;
                case 1: house.wrap(1, 0); break;
                case 2: house.slice(0, 1); break;
                default: house.sliceAt(0, 0, 4, 1); break;
            }
            checks.refused("back, way " + way, house, Checks.STATE, () -> house.back(1));
        }
        house.clear(0);
        house.mark(1);
        house.duplicate(0, 1);
        checks.refused("back of a duplicate of one without a mark", house, Checks.STATE, () -> house.back(1));
        house.mark(1);
        house.readOnly(0, 1);
        checks.refused("back of a reader of one without a mark", house, Checks.STATE, () -> house.back(1));
    }

    private static void aNewStoreInPlaceOfASlice() {
        Windowhouse house = Checks.filled('i', 4);
        house.make(0, 2);
        house.rowPut(0, 0, 7);
        house.sliceAt(0, 2, 2, 1);
        house.sliceAt(0, 2, 2, 2);
        house.wrap(1, 0);
        checks.due("wrap in place of a slice", Checks.valuesOf(house, 1), "7 0");
        house.allocate(2, 'i', 2);
        checks.due("allocate in place of a slice", Checks.valuesOf(house, 2), "0 0");
        house.sliceAt(0, 3, 1, 1);
        house.duplicate(0, 1);
        checks.due("duplicate in place of a slice", Checks.valuesOf(house, 1), "10 11 12 13");
    }

    private static void targetsAreChecked() {
        Windowhouse house = Checks.filled('i', 4);
        for (int to : Checks.NO_WINDOWS) {
            checks.refused("slice to " + to, house, Checks.BOUNDS, () -> house.slice(0, to));
            checks.refused("sliceAt to " + to, house, Checks.BOUNDS, () -> house.sliceAt(0, 1, 1, to));
            checks.refused("duplicate to " + to, house, Checks.BOUNDS, () -> house.duplicate(0, to));
            checks.refused("readOnly to " + to, house, Checks.BOUNDS, () -> house.readOnly(0, to));
        }
    }
}
