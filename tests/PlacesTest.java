/** Promises 9 to 21: place, end, left, hasLeft, isReadOnly, placeAt, endAt, mark, back, clear, flip, rewind, compact. */
public final class PlacesTest {
    private static final Checks checks = new Checks();

    public static void main(String[] args) {
        telling();
        placeAt();
        endAt();
        markAndBack();
        whatDropsAMark();
        clear();
        flip();
        rewind();
        compact();
        compactOfASlice();
        checks.finish();
    }

    private static void telling() {
        Windowhouse house = Checks.filled('i', 6);
        house.placeAt(0, 2);
        house.endAt(0, 5);
        checks.due("place", house.place(0), 2);
        checks.due("end", house.end(0), 5);
        checks.due("left", house.left(0), 3);
        checks.due("hasLeft", house.hasLeft(0), true);
        checks.due("isReadOnly", house.isReadOnly(0), false);
        house.placeAt(0, 4);
        checks.due("hasLeft of one", house.hasLeft(0), true);
        house.placeAt(0, 5);
        checks.due("left of nothing", house.left(0), 0);
        checks.due("hasLeft of nothing", house.hasLeft(0), false);
        house.readOnly(0, 1);
        checks.due("isReadOnly", house.isReadOnly(1), true);
        checks.refusedWithoutWindow("place", house::place, house, 2, 7);
        checks.refusedWithoutWindow("end", house::end, house, 2, 7);
        checks.refusedWithoutWindow("left", house::left, house, 2, 7);
        checks.refusedWithoutWindow("hasLeft", house::hasLeft, house, 2, 7);
        checks.refusedWithoutWindow("isReadOnly", house::isReadOnly, house, 2, 7);
    }

    private static void placeAt() {
        Windowhouse house = Checks.filled('l', 6);
        house.endAt(0, 4);
        checks.due("placeAt(0, 3)", house.placeAt(0, 3), 0);
        checks.due("placeAt(0, 4), the end", house.placeAt(0, 4), 3);
        checks.due("placeAt(0, 0)", house.placeAt(0, 0), 4);
        house.placeAt(0, 2);
        house.mark(0);
        for (int place : new int[] {-1, 5, 6, Integer.MIN_VALUE, Integer.MAX_VALUE}) {
            checks.refused("placeAt " + place, house, Checks.ARGUMENT, () -> house.placeAt(0, place));
        }
        checks.due("a refused placeAt leaves the mark", house.back(0), 0);
        checks.refusedWithoutWindow("placeAt", window -> house.placeAt(window, -1), house, 1, 7);
    }

    private static void endAt() {
        Windowhouse house = Checks.filled('c', 6);
        checks.due("endAt(0, 4)", house.endAt(0, 4), 6);
        checks.due("endAt(0, 6), how long it is", house.endAt(0, 6), 4);
        house.placeAt(0, 5);
        checks.due("endAt(0, 5), the place", house.endAt(0, 5), 6);
        checks.due("the place stays", house.place(0), 5);
        checks.due("endAt(0, 3), ahead of the place", house.endAt(0, 3), 5);
        checks.due("the place becomes it", Checks.boundsOf(house, 0), "3 3 6");
        house.mark(0);
        for (int end : new int[] {-1, 7, Integer.MIN_VALUE, Integer.MAX_VALUE}) {
            checks.refused("endAt " + end, house, Checks.ARGUMENT, () -> house.endAt(0, end));
        }
        checks.due("a refused endAt leaves the mark", house.back(0), 0);
        checks.due("endAt(0, 0)", house.endAt(0, 0), 3);
        checks.due("nothing is left", Checks.boundsOf(house, 0), "0 0 6");
        checks.refusedWithoutWindow("endAt", window -> house.endAt(window, -1), house, 1, 7);
    }

    private static void markAndBack() {
        Windowhouse house = Checks.filled('i', 6);
        checks.refused("back without a mark", house, Checks.STATE, () -> house.back(0));
        house.placeAt(0, 2);
        checks.due("mark", house.mark(0), 2);
        checks.due("back at once", house.back(0), 0);
        house.placeAt(0, 5);
        checks.due("back", house.back(0), 3);
        checks.due("place", house.place(0), 2);
        house.get(0);
        checks.due("the mark stays", house.back(0), 1);
        house.placeAt(0, 4);
        checks.due("mark anew", house.mark(0), 4);
        house.get(0);
        checks.due("back to the new one", house.back(0), 1);
        house.clear(0);
        checks.due("mark of the place 0", house.mark(0), 0);
        house.placeAt(0, 6);
        checks.due("back to 0", house.back(0), 6);
        checks.refusedWithoutWindow("mark", house::mark, house, 1, 7);
        checks.refusedWithoutWindow("back", house::back, house, 1, 7);
    }

    private static void whatDropsAMark() {
        for (int i = 0; i < 8; i++) {
            Windowhouse house = Checks.filled('i', 6);
            house.placeAt(0, 3);
            house.mark(0);
            boolean stays = false;
            switch (i) {
                case 0: house.placeAt(0, 3); stays = true; break;
                case 1: house.placeAt(0, 2); break;
                case 2: house.endAt(0, 3); stays = true; break;
                case 3: house.endAt(0, 2); break;
                case 4: house.clear(0); break;
                case 5: house.flip(0); break;
                case 6: house.rewind(0); break;
                default: house.compact(0); break;
            }
            if (stays) {
                checks.due("a mark that stays, way " + i, house.back(0), 0);
            } else {
                checks.refused("a mark that is gone, way " + i, house, Checks.STATE, () -> house.back(0));
            }
        }
    }

    private static void clear() {
        Windowhouse house = Checks.filled('i', 4);
        house.endAt(0, 3);
        house.placeAt(0, 2);
        checks.due("clear", house.clear(0), 4);
        checks.due("bounds", Checks.boundsOf(house, 0), "0 4 4");
        checks.due("no value changes", Checks.valuesOf(house, 0), "10 11 12 13");
        checks.refusedWithoutWindow("clear", house::clear, house, 1, 7);
    }

    private static void flip() {
        Windowhouse house = Checks.filled('i', 4);
        house.endAt(0, 3);
        house.placeAt(0, 2);
        checks.due("flip", house.flip(0), 2);
        checks.due("bounds", Checks.boundsOf(house, 0), "0 2 4");
        checks.due("flip again", house.flip(0), 0);
        checks.due("bounds again", Checks.boundsOf(house, 0), "0 0 4");
        checks.refusedWithoutWindow("flip", house::flip, house, 1, 7);
    }

    private static void rewind() {
        Windowhouse house = Checks.filled('i', 4);
        house.endAt(0, 3);
        house.placeAt(0, 2);
        checks.due("rewind", house.rewind(0), 3);
        checks.due("bounds", Checks.boundsOf(house, 0), "0 3 4");
        checks.refusedWithoutWindow("rewind", house::rewind, house, 1, 7);
    }

    private static void compact() {
        Windowhouse house = Checks.filled('s', 6);
        house.placeAt(0, 1);
        house.endAt(0, 5);
        checks.due("compact", house.compact(0), 4);
        checks.due("bounds", Checks.boundsOf(house, 0), "4 6 6");
        checks.due("values behind it stay", Checks.valuesOf(house, 0), "11 12 13 14 14 15");
        house.placeAt(0, 6);
        checks.due("compact of nothing", house.compact(0), 0);
        checks.due("bounds of nothing", Checks.boundsOf(house, 0), "0 6 6");
        checks.due("compact of all", house.compact(0), 6);
        checks.due("values of all", Checks.valuesOf(house, 0), "11 12 13 14 14 15");
        house.allocate(1, 'i', 0);
        checks.due("compact of one that is 0 long", house.compact(1), 0);
        house.placeAt(0, 2);
        house.mark(0);
        house.readOnly(0, 0);
        checks.refused("compact of one that only reads", house, Checks.UNSUPPORTED, () -> house.compact(0));
        checks.due("it leaves the mark", house.back(0), 0);
        checks.refusedWithoutWindow("compact", house::compact, house, 2, 7);
    }

    private static void compactOfASlice() {
        Windowhouse house = Checks.filled('i', 6);
        house.sliceAt(0, 2, 3, 1);
        house.placeAt(1, 1);
        checks.due("compact of a slice", house.compact(1), 2);
        checks.due("bounds", Checks.boundsOf(house, 1), "2 3 3");
        checks.due("its values", Checks.valuesOf(house, 1), "13 14 14");
        checks.due("the store", Checks.valuesOf(house, 0), "10 11 13 14 14 15");
    }
}
