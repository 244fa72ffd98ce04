/** Promises 36 to 40: isAlike, fullShare, meanLeft, checksum, isTrue. */
public final class SumsTest {
    private static final Checks checks = new Checks();

    public static void main(String[] args) {
        isAlike();
        isAlikeOverKinds();
        fullShare();
        meanLeft();
        checksum();
        checksumOfRows();
        isTrue();
        isTrueLaysBackOneWindow();
        checks.finish();
    }

    private static void isAlike() {
        Windowhouse house = Checks.filled('i', 4);
        house.allocate(1, 'i', 6);
        house.fill(1, 6, 8, 1);
        house.placeAt(1, 2);
        checks.due("alike behind their places", house.isAlike(0, 1), true);
        checks.due("and the other way", house.isAlike(1, 0), true);
        checks.due("with itself", house.isAlike(0, 0), true);
        checks.due("the places stay", house.place(0) + house.place(1), 2);
        house.endAt(1, 5);
        checks.due("not as many", house.isAlike(0, 1), false);
        house.endAt(0, 3);
        checks.due("as many again", house.isAlike(0, 1), true);
        house.putAt(1, 4, 0);
        checks.due("the last one is another", house.isAlike(0, 1), false);
        house.putAt(1, 4, 12);
        house.putAt(0, 0, 0);
        checks.due("the first one is another", house.isAlike(0, 1), false);
        house.placeAt(0, 3);
        house.placeAt(1, 5);
        checks.due("nothing is left in both", house.isAlike(0, 1), true);
        checks.refusedWithoutWindow("isAlike of", window -> house.isAlike(window, 0), house, 2, 7);
        checks.refusedWithoutWindow("isAlike with", window -> house.isAlike(0, window), house, 2, 7);
        checks.refusedWithoutWindow("isAlike of one", window -> house.isAlike(window, window), house, 2, 7);
    }

    private static void isAlikeOverKinds() {
        Windowhouse house = new Windowhouse();
        char[] kinds = {'i', 'l', 'c', 's'};
        for (int i = 0; i < 4; i++) {
            house.allocate(i, kinds[i], 2);
            house.fill(i, 2, 200, 1);
            house.rewind(i);
        }
        for (int i = 0; i < 16; i++) {
            checks.due("alike, " + i, house.isAlike(i / 4, i % 4), true);
        }
        for (int i = 0; i < 4; i++) {
            house.putAt(i, 1, -1);
        }
        for (int i = 0; i < 16; i++) {
            boolean oneOfChars = (i / 4 == 2) != (i % 4 == 2);
            checks.due("a char has no sign, " + i, house.isAlike(i / 4, i % 4), !oneOfChars);
        }
    }

    private static void fullShare() {
        Windowhouse house = Checks.filled('i', 3);
        checks.due("fullShare of nothing", house.fullShare(0), 0.0f);
        house.placeAt(0, 1);
        house.endAt(0, 2);
        checks.due("fullShare of 1 in 3", house.fullShare(0), 1.0f / 3.0f);
        house.placeAt(0, 2);
        checks.due("fullShare of 2 in 3", house.fullShare(0), 2.0f / 3.0f);
        house.clear(0);
        house.placeAt(0, 3);
        checks.due("fullShare of all", house.fullShare(0), 1.0f);
        house.allocate(1, 'c', 0);
        checks.refused("fullShare of one that is 0 long", house, Checks.ARITHMETIC, () -> house.fullShare(1));
        house.endAt(0, 0);
        checks.due("fullShare of one whose end is 0", house.fullShare(0), 0.0f);
        checks.refusedWithoutWindow("fullShare", house::fullShare, house, 2, 7);
    }

    private static void meanLeft() {
        Windowhouse house = new Windowhouse();
        checks.refused("meanLeft without windows", house, Checks.ARITHMETIC, () -> house.meanLeft());
        house.allocate(7, 'i', 0);
        checks.due("meanLeft of nothing", house.meanLeft(), 0.0);
        house.allocate(0, 'l', 5);
        house.placeAt(0, 1);
        house.endAt(0, 4);
        house.allocate(3, 's', 7);
        checks.due("meanLeft of three", house.meanLeft(), 10.0 / 3.0);
        house.duplicate(0, 3);
        checks.due("meanLeft of 0, 3, 3", house.meanLeft(), 2.0);
    }

    private static void checksum() {
        Windowhouse house = new Windowhouse();
        long sum = 7;
        for (int i = 0; i < 8; i++) {
            sum = 31 * sum + '-';
        }
        checks.due("checksum of a new house", house.checksum(), sum);
        house.allocate(1, 'l', 4);
        house.fill(1, 4, -5, Long.MAX_VALUE / 3);
        house.placeAt(1, 2);
        house.endAt(1, 3);
        house.allocate(7, 'c', 0);
        long[] parts = {'-', 'l', 2, 3, 4, -5, -5 + Long.MAX_VALUE / 3, -5 + Long.MAX_VALUE / 3 * 2,
            '-', '-', '-', '-', '-', 'c', 0, 0, 0};
        checks.due("checksum of two windows", house.checksum(), sumOf(parts));
        house.putAt(1, 0, 6);
        parts[5] = 6;
        checks.due("checksum with another value", house.checksum(), sumOf(parts));
        house.clear(1);
        house.putAt(1, 3, 99);
        house.endAt(1, 3);
        house.placeAt(1, 2);
        checks.due("no value beyond the end counts", house.checksum(), sumOf(parts));
        house.mark(1);
        house.readOnly(1, 1);
        checks.due("neither mark nor reading counts", house.checksum(), sumOf(parts));
    }

    private static void checksumOfRows() {
        Windowhouse house = new Windowhouse();
        house.make(0, 2);
        house.make(1, 1);
        house.rowPut(0, 0, -3);
        house.rowPut(0, 1, 4);
        house.rowPut(1, 0, Integer.MIN_VALUE);
        house.wrap(7, 0);
        long[] parts = {'-', '-', '-', '-', '-', '-', '-', 'i', 0, 2, 2, -3, 4, -3, 4, Integer.MIN_VALUE};
        checks.due("checksum with rows", house.checksum(), sumOf(parts));
    }

    private static long sumOf(long[] parts) {
        long sum = 7;
        for (long part : parts) {
            sum = 31 * sum + part;
        }
        return sum;
    }

    private static void isTrueLaysBackOneWindow() {
        Windowhouse house = Checks.filled('l', 3);
        house.placeAt(0, 1);
        checks.due("isTrue of one", house.isTrue(), true);
        house.clear(0);
        checks.due("its values", Checks.valuesOf(house, 0), "10 11 12");
    }

    private static void isTrue() {
        Windowhouse house = new Windowhouse();
        house.make(0, 64);
        house.wrap(0, 0);
        house.fill(0, 64, Integer.MAX_VALUE, 1);
        house.placeAt(0, 9);
        house.allocate(1, 'c', 5);
        house.fill(1, 5, 254, 1);
        house.rewind(1);
        house.mark(1);
        house.readOnly(1, 2);
        house.sliceAt(0, 3, 7, 3);
        house.allocate(4, 's', 0);
        house.allocate(5, 'l', 3);
        house.fill(5, 3, Long.MIN_VALUE, -1);
        String before = Checks.stateOf(house) + Checks.valuesOf(house, 0) + Checks.valuesOf(house, 1);
        // After each of two calls: what two windows over one store change might undo itself in the end.
        for (int i = 0; i < 2; i++) {
            checks.due("isTrue", house.isTrue(), true);
            checks.due("what is changed is laid back",
                    Checks.stateOf(house) + Checks.valuesOf(house, 0) + Checks.valuesOf(house, 1), before);
        }
        house.get(1);
        checks.due("the mark stays", house.back(1), 1);
        checks.due("a reader's mark stays", house.back(2), 0);
    }
}
