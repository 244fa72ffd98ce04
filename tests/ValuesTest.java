/** Promises 22 to 27: get, put, getAt, putAt, fill, pour. */
public final class ValuesTest {
    private static final Checks checks = new Checks();

    public static void main(String[] args) {
        get();
        put();
        cutting();
        getAt();
        putAt();
        fill();
        fillRefuses();
        pour();
        pourOverOneStore();
        pourRefuses();
        checks.finish();
    }

    private static void get() {
        Windowhouse house = Checks.filled('i', 3);
        house.endAt(0, 2);
        checks.due("get", house.get(0), 10L);
        checks.due("the place goes on", house.place(0), 1);
        checks.due("get again", house.get(0), 11L);
        checks.refused("get of nothing", house, Checks.MISSING, () -> house.get(0));
        house.allocate(1, 'l', 0);
        checks.refused("get of one that is 0 long", house, Checks.MISSING, () -> house.get(1));
        checks.refusedWithoutWindow("get", house::get, house, 2, 7);
    }

    private static void put() {
        Windowhouse house = Checks.filled('i', 3);
        house.endAt(0, 2);
        checks.due("put", house.put(0, 5), 1);
        checks.due("put again", house.put(0, -6), 2);
        checks.refused("put into nothing", house, Checks.STATE, () -> house.put(0, 7));
        house.clear(0);
        checks.due("values", Checks.valuesOf(house, 0), "5 -6 12");
        house.readOnly(0, 1);
        checks.refused("put into one that only reads", house, Checks.UNSUPPORTED, () -> house.put(1, 1));
        house.placeAt(1, 3);
        checks.refused("the same at its end", house, Checks.UNSUPPORTED, () -> house.put(1, 1));
        checks.refusedWithoutWindow("put", window -> house.put(window, 1), house, 2, 7);
    }

    private static void cutting() {
        long[] values = {0, 1, -1, 127, 128, 255, 256, 32767, 32768, 65535, 65536, 65601, -32769, 1L << 31,
            (1L << 31) - 1, 1L << 32, -(1L << 31) - 1, Long.MIN_VALUE, Long.MAX_VALUE, 0x123456789abcdef0L};
        for (long value : values) {
            Windowhouse house = new Windowhouse();
            cuttingOf(house, 'i', value, (int) value);
            cuttingOf(house, 'l', value, value);
            cuttingOf(house, 'c', value, value & 255);
            cuttingOf(house, 's', value, (short) value);
        }
    }

    private static void cuttingOf(Windowhouse house, char kind, long value, long cut) {
        String call = kind + " of " + value;
        house.allocate(0, kind, 4);
        house.put(0, value);
        house.putAt(0, 1, value);
        house.placeAt(0, 2);
        house.fill(0, 1, value, 1);
        house.allocate(1, 'l', 1);
        house.putAt(1, 0, value);
        house.pour(1, 0, 1);
        house.rewind(0);
        for (int i = 0; i < 4; i++) {
            checks.due("getAt " + i + ", " + call, house.getAt(0, i), cut);
            checks.due("get " + i + ", " + call, house.get(0), cut);
        }
        checks.due("putAt tells it, " + call, house.putAt(0, 0, 0), cut);
    }

    private static void getAt() {
        Windowhouse house = Checks.filled('l', 4);
        house.endAt(0, 3);
        house.placeAt(0, 2);
        checks.due("getAt(0, 0), ahead of the place", house.getAt(0, 0), 10L);
        checks.due("getAt(0, 2)", house.getAt(0, 2), 12L);
        checks.due("the place stays", house.place(0), 2);
        for (int index : new int[] {-1, 3, 4, Integer.MIN_VALUE, Integer.MAX_VALUE}) {
            checks.refused("getAt " + index, house, Checks.BOUNDS, () -> house.getAt(0, index));
        }
        checks.refusedWithoutWindow("getAt", window -> house.getAt(window, 0), house, 1, 7);
    }

    private static void putAt() {
        Windowhouse house = Checks.filled('l', 4);
        house.endAt(0, 3);
        house.placeAt(0, 1);
        checks.due("putAt(0, 0, 5)", house.putAt(0, 0, 5), 10L);
        checks.due("putAt(0, 0, 6)", house.putAt(0, 0, 6), 5L);
        checks.due("putAt(0, 2, 7)", house.putAt(0, 2, 7), 12L);
        checks.due("values", Checks.valuesOf(house, 0), "6 11 7");
        checks.due("the place stays", house.place(0), 1);
        house.readOnly(0, 1);
        for (int index : new int[] {-1, 3, 4, Integer.MIN_VALUE, Integer.MAX_VALUE}) {
            checks.refused("putAt " + index, house, Checks.BOUNDS, () -> house.putAt(0, index, 1));
            checks.refused("putAt " + index + " of a reader", house, Checks.BOUNDS, () -> house.putAt(1, index, 1));
        }
        checks.refused("putAt of a reader", house, Checks.UNSUPPORTED, () -> house.putAt(1, 0, 1));
        checks.refusedWithoutWindow("putAt", window -> house.putAt(window, 0, 1), house, 2, 7);
    }

    private static void fill() {
        Windowhouse house = Checks.filled('l', 6);
        house.placeAt(0, 1);
        checks.due("fill(0, 3, 100, -7)", house.fill(0, 3, 100, -7), 4);
        checks.due("values", Checks.valuesOf(house, 0), "10 100 93 86 14 15");
        checks.due("fill of nothing", house.fill(0, 0, 1, 1), 4);
        checks.due("fill of all that is left", house.fill(0, 2, Long.MAX_VALUE, 1), 6);
        checks.due("longs go round", house.getAt(0, 5), Long.MIN_VALUE);
        checks.due("fill of nothing at the end", house.fill(0, 0, 1, 1), 6);
        house.allocate(1, 'c', 3);
        house.fill(1, 3, 254, 1);
        checks.due("the sum is cut, not what it is added to", Checks.valuesOf(house, 1), "254 255 0");
        house.allocate(1, 's', 3);
        house.fill(1, 3, 1, 1L << 15);
        checks.due("a step that is cut each time", Checks.valuesOf(house, 1), "1 -32767 1");
    }

    private static void fillRefuses() {
        Windowhouse house = Checks.filled('i', 4);
        house.placeAt(0, 2);
        house.readOnly(0, 1);
        for (int many : new int[] {-1, Integer.MIN_VALUE}) {
            checks.refused("fill " + many, house, Checks.ARGUMENT, () -> house.fill(0, many, 1, 1));
            checks.refused("fill " + many + " of a reader", house, Checks.ARGUMENT, () -> house.fill(1, many, 1, 1));
        }
        for (int many : new int[] {0, 1, 3}) {
            checks.refused("fill " + many + " of a reader", house, Checks.UNSUPPORTED,
                    () -> house.fill(1, many, 1, 1));
        }
        for (int many : new int[] {3, Integer.MAX_VALUE}) {
            checks.refused("fill " + many, house, Checks.STATE, () -> house.fill(0, many, 1, 1));
        }
        checks.refusedWithoutWindow("fill", window -> house.fill(window, -1, 1, 1), house, 2, 7);
    }

    private static void pour() {
        Windowhouse house = Checks.filled('l', 5);
        house.putAt(0, 1, -1);
        house.putAt(0, 2, 70000);
        house.placeAt(0, 1);
        house.allocate(1, 'c', 4);
        house.put(1, 3);
        checks.due("pour(0, 1, 2)", house.pour(0, 1, 2), 3);
        checks.due("the window's place", house.place(0), 3);
        checks.due("cut to the other's kind", Checks.valuesOf(house, 1), "3 255 112 0");
        checks.due("pour of nothing", house.pour(0, 1, 0), 3);
        checks.due("pour of all that is left in the other", house.pour(0, 1, 1), 4);
        house.flip(1);
        house.allocate(2, 's', 4);
        checks.due("pour of all that is left in both", house.pour(1, 2, 4), 4);
        checks.due("chars are without sign", Checks.valuesOf(house, 2), "3 255 112 13");
        house.rewind(1);
        house.readOnly(1, 3);
        house.rewind(2);
        checks.due("pour of one that only reads", house.pour(3, 2, 1), 1);
    }

    private static void pourOverOneStore() {
        Windowhouse house = Checks.filled('i', 5);
        house.duplicate(0, 1);
        house.placeAt(1, 1);
        checks.due("pour into a duplicate that is ahead", house.pour(0, 1, 4), 5);
        checks.due("one by one", Checks.valuesOf(house, 0), "10 10 10 10 10");
        Windowhouse other = Checks.filled('i', 5);
        other.duplicate(0, 1);
        other.placeAt(0, 1);
        checks.due("pour into a duplicate that is behind", other.pour(0, 1, 4), 4);
        checks.due("one by one", Checks.valuesOf(other, 0), "11 12 13 14 14");
    }

    private static void pourRefuses() {
        Windowhouse house = Checks.filled('i', 4);
        house.allocate(1, 'i', 6);
        house.readOnly(1, 2);
        checks.refused("pour into itself", house, Checks.ARGUMENT, () -> house.pour(0, 0, 1));
        checks.refused("pour of nothing into itself", house, Checks.ARGUMENT, () -> house.pour(0, 0, 0));
        checks.refused("pour of a reader into itself", house, Checks.ARGUMENT, () -> house.pour(2, 2, 0));
        checks.refused("pour -1", house, Checks.ARGUMENT, () -> house.pour(0, 1, -1));
        checks.refused("pour -1 into a reader", house, Checks.ARGUMENT, () -> house.pour(0, 2, -1));
        checks.refused("pour min", house, Checks.ARGUMENT, () -> house.pour(0, 1, Integer.MIN_VALUE));
        checks.refused("pour into a reader", house, Checks.UNSUPPORTED, () -> house.pour(0, 2, 1));
        checks.refused("pour of nothing into a reader", house, Checks.UNSUPPORTED, () -> house.pour(0, 2, 0));
        checks.refused("pour too many into a reader", house, Checks.UNSUPPORTED, () -> house.pour(0, 2, 9));
        checks.refused("pour 5 of 4", house, Checks.MISSING, () -> house.pour(0, 1, 5));
        checks.refused("pour 5 of 6 into 4", house, Checks.STATE, () -> house.pour(1, 0, 5));
        checks.refused("pour 7, too many for both", house, Checks.MISSING, () -> house.pour(1, 0, 7));
        checks.refused("pour max", house, Checks.MISSING, () -> house.pour(1, 0, Integer.MAX_VALUE));
        checks.refusedWithoutWindow("pour of", window -> house.pour(window, 1, -1), house, 3, 7);
        checks.refusedWithoutWindow("pour into", window -> house.pour(1, window, -1), house, 3, 7);
        checks.refused("pour of none into itself", house, Checks.BOUNDS, () -> house.pour(3, 3, 0));
    }
}
