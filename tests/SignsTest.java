/** Promises 32 to 35: signAt, signsLeft, append, text. */
public final class SignsTest {
    private static final Checks checks = new Checks();

    public static void main(String[] args) {
        signAt();
        signsLeft();
        append();
        text();
        otherKindsHaveNoSigns();
        checks.finish();
    }

    private static Windowhouse abcde() {
        Windowhouse house = new Windowhouse();
        house.allocate(0, 'c', 5);
        house.fill(0, 5, 'a', 1);
        house.rewind(0);
        return house;
    }

    private static void signAt() {
        Windowhouse house = abcde();
        checks.due("signAt(0, 4)", house.signAt(0, 4), 'e');
        house.placeAt(0, 1);
        house.endAt(0, 4);
        checks.due("signAt(0, 0)", house.signAt(0, 0), 'b');
        checks.due("signAt(0, 2)", house.signAt(0, 2), 'd');
        checks.due("the place stays", house.place(0), 1);
        for (int index : new int[] {-1, 3, 4, Integer.MIN_VALUE, Integer.MAX_VALUE}) {
            checks.refused("signAt " + index, house, Checks.MISSING, () -> house.signAt(0, index));
        }
        house.slice(0, 1);
        house.readOnly(1, 1);
        checks.due("signAt of a slice that only reads", house.signAt(1, 1), 'c');
        house.placeAt(1, 3);
        checks.refused("signAt of nothing", house, Checks.MISSING, () -> house.signAt(1, 0));
        house.putAt(0, 1, -1);
        checks.due("a sign without sign", house.signAt(0, 0), (char) 255);
        checks.refusedWithoutWindow("signAt", window -> house.signAt(window, 0), house, 2, 7);
    }

    private static void signsLeft() {
        Windowhouse house = abcde();
        checks.due("signsLeft", house.signsLeft(0), 5);
        house.placeAt(0, 1);
        house.endAt(0, 4);
        checks.due("signsLeft of some", house.signsLeft(0), 3);
        house.placeAt(0, 4);
        checks.due("signsLeft of nothing", house.signsLeft(0), 0);
        checks.refusedWithoutWindow("signsLeft", house::signsLeft, house, 2, 7);
    }

    private static void append() {
        Windowhouse house = abcde();
        house.endAt(0, 3);
        checks.due("append x", house.append(0, 'x'), 1);
        checks.due("append 321", house.append(0, (char) 321), 2);
        checks.due("append 65535", house.append(0, (char) 65535), 3);
        checks.refused("append to nothing", house, Checks.STATE, () -> house.append(0, 'y'));
        house.clear(0);
        checks.due("values", Checks.valuesOf(house, 0), "120 65 255 100 101");
        house.readOnly(0, 1);
        checks.refused("append to a reader", house, Checks.UNSUPPORTED, () -> house.append(1, 'y'));
        house.placeAt(1, 5);
        checks.refused("append to a reader at its end", house, Checks.UNSUPPORTED, () -> house.append(1, 'y'));
        checks.refusedWithoutWindow("append", window -> house.append(window, 'x'), house, 2, 7);
    }

    private static void text() {
        Windowhouse house = abcde();
        house.placeAt(0, 1);
        house.endAt(0, 3);
        checks.due("text of bc", house.text(0), (7L * 31 + 'b') * 31 + 'c');
        checks.due("the place stays", Checks.boundsOf(house, 0), "1 3 5");
        house.placeAt(0, 3);
        checks.due("text of nothing", house.text(0), 7L);
        house.allocate(1, 'c', 64);
        house.fill(1, 64, 255, 0);
        house.rewind(1);
        long sum = 7;
        for (int i = 0; i < 64; i++) {
            sum = 31 * sum + 255;
        }
        checks.due("text goes round", house.text(1), sum);
        checks.refusedWithoutWindow("text", house::text, house, 2, 7);
    }

    private static void otherKindsHaveNoSigns() {
        for (char kind : new char[] {'i', 'l', 's'}) {
            Windowhouse house = Checks.filled(kind, 3);
            checks.refused("signAt of " + kind, house, Checks.UNSUPPORTED, () -> house.signAt(0, 0));
            checks.refused("signAt -1 of " + kind, house, Checks.UNSUPPORTED, () -> house.signAt(0, -1));
            checks.refused("signsLeft of " + kind, house, Checks.UNSUPPORTED, () -> house.signsLeft(0));
            checks.refused("append to " + kind, house, Checks.UNSUPPORTED, () -> house.append(0, 'x'));
            checks.refused("text of " + kind, house, Checks.UNSUPPORTED, () -> house.text(0));
            house.placeAt(0, 3);
            checks.refused("append to " + kind + " at its end", house, Checks.UNSUPPORTED,
                    () -> house.append(0, 'x'));
        }
    }
}
