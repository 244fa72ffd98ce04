import java.math.BigInteger;

/** The edges of promises 32 to 35, a sentence of the document at a time. */
public final class SignsEdgesTest {
    private static final int MIN = Integer.MIN_VALUE;
    private static final int MAX = Integer.MAX_VALUE;
    private static final int NONE = Houses.NONE;
    private static final String NO_WINDOW = "Throws IndexOutOfBoundsException if there is no such window";
    private static final char[] OTHER_KINDS = {'i', 'l', 's'};

    private static final Checks checks = new Checks();

    public static void main(String[] args) {
        signAt();
        signAtByWhatIsLeft();
        signAtRefusesOtherKinds();
        signAtRefuses();
        signsLeft();
        signsLeftRefuses();
        append();
        appendKeepsTheLowest8Bits();
        appendRefuses();
        text();
        textGoesRound();
        textRefuses();
        checks.finish();
    }

    /** a to f. */
    private static Checks.Plan at(int mark, int place, int end) {
        return Houses.one('c', mark, place, end, 'a', 'b', 'c', 'd', 'e', 'f');
    }

    private static void signAt() {
        checks.windows(32, NO_WINDOW, (house, window) -> house.signAt(window, 0), (char) 3, (char) 15);
        checks.noWindows(32, NO_WINDOW, (house, window) -> house.signAt(window, -1));
        checks.sentence("32: Returns a sign of a window of chars, by what is left.");
        checks.tells("of a reader", Houses.reader(at(1, 2, 4)), house -> house.signAt(0, 1), 'd');
        checks.tells("of a slice", Houses.then(at(1, 2, 4), house -> house.slice(0, 0)), house -> house.signAt(0, 1), 'd');
        checks.sentence("32: index: from 0");
        checks.tells("0", at(1, 2, 4), house -> house.signAt(0, 0), 'c');
        checks.tells("0 at the beginning", at(NONE, 0, 6), house -> house.signAt(0, 0), 'a');
        checks.tells("the last one left", at(1, 2, 4), house -> house.signAt(0, 1), 'd');
        checks.tells("the last of all", at(NONE, 0, 6), house -> house.signAt(0, 5), 'f');
        checks.tells("the only one left", at(NONE, 5, 6), house -> house.signAt(0, 0), 'f');
        checks.tells("63 of 64", Houses.counted('c', 64, NONE, 0, 64), house -> house.signAt(0, 63), (char) 64);
    }

    private static void signAtByWhatIsLeft() {
        checks.sentence("32: Returns the sign so many behind the place.");
        Windowhouse house = at(NONE, 0, 6).house();
        for (int place = 0; place < 6; place++) {
            house.placeAt(0, place);
            for (int index = 0; index < 6 - place; index++) {
                checks.due(index + " behind " + place, house.signAt(0, index), (char) ('a' + place + index));
            }
        }
        for (int sign : new int[] {0, 1, 127, 128, 254, 255}) {
            checks.tells("sign " + sign, Houses.one('c', NONE, 0, 1, sign), of -> of.signAt(0, 0), (char) sign);
        }
    }

    private static void signAtRefusesOtherKinds() {
        checks.sentence("32: Throws UnsupportedOperationException if it is not of chars");
        for (char kind : OTHER_KINDS) {
            for (int index : new int[] {0, -1, 3, MIN, MAX}) {
                checks.refuses("sign " + index + " of kind " + kind, Houses.one(kind, 0, 1, 3, 97, 98, 99),
                        Checks.UNSUPPORTED, house -> house.signAt(0, index));
            }
            checks.refuses("over nothing, of kind " + kind, Houses.empty(kind), Checks.UNSUPPORTED,
                    house -> house.signAt(0, 0));
        }
    }

    private static void signAtRefuses() {
        checks.sentence("32: Throws NoSuchElementException if index is below 0, or not so many and one more are left");
        for (int index : new int[] {-1, -2, 2, 3, 4, MIN, MAX, MAX - 1}) {
            checks.refuses("signAt " + index, at(1, 2, 4), Checks.MISSING, house -> house.signAt(0, index));
        }
        checks.refuses("-1, though there is one ahead", at(NONE, 1, 6), Checks.MISSING, house -> house.signAt(0, -1));
        checks.refuses("0 with nothing left", at(1, 4, 4), Checks.MISSING, house -> house.signAt(0, 0));
        checks.refuses("0 at how long it is", at(1, 6, 6), Checks.MISSING, house -> house.signAt(0, 0));
        checks.refuses("0 over nothing", Houses.empty('c'), Checks.MISSING, house -> house.signAt(0, 0));
        checks.refuses("64 of 64", Houses.counted('c', 64, NONE, 0, 64), Checks.MISSING, house -> house.signAt(0, 64));
        checks.refuses("of a reader", Houses.reader(at(1, 2, 4)), Checks.MISSING, house -> house.signAt(0, 2));
    }

    private static void signsLeft() {
        checks.windows(33, NO_WINDOW, Windowhouse::signsLeft, 2, 3);
        checks.sentence("33: Returns how many signs are left in a window of chars.");
        checks.tells("of a reader", Houses.reader(at(1, 2, 5)), house -> house.signsLeft(0), 3);
        checks.sentence("33: Returns how many.");
        checks.tells("none", at(1, 4, 4), house -> house.signsLeft(0), 0);
        checks.tells("none at how long it is", at(1, 6, 6), house -> house.signsLeft(0), 0);
        checks.tells("none over nothing", Houses.empty('c'), house -> house.signsLeft(0), 0);
        checks.tells("one", at(1, 3, 4), house -> house.signsLeft(0), 1);
        checks.tells("all", at(NONE, 0, 6), house -> house.signsLeft(0), 6);
        checks.tells("all of 64", Houses.counted('c', 64, NONE, 0, 64), house -> house.signsLeft(0), 64);
    }

    private static void signsLeftRefuses() {
        checks.sentence("33: Throws UnsupportedOperationException if it is not of chars");
        for (char kind : OTHER_KINDS) {
            checks.refuses("of kind " + kind, Houses.one(kind, 0, 1, 3, 97, 98, 99), Checks.UNSUPPORTED,
                    house -> house.signsLeft(0));
            checks.refuses("over nothing, of kind " + kind, Houses.empty(kind), Checks.UNSUPPORTED,
                    house -> house.signsLeft(0));
        }
    }

    private static void append() {
        checks.windows(34, NO_WINDOW, (house, window) -> house.append(window, 'x'), 3, 5);
        checks.sentence("34: Puts a sign into a window of chars.");
        checks.leads("the first", at(NONE, 0, 6), house -> house.append(0, 'x'), 1,
                Houses.one('c', NONE, 1, 6, 'x', 'b', 'c', 'd', 'e', 'f'));
        checks.leads("the one ahead of the end", at(1, 3, 4), house -> house.append(0, 'x'), 4,
                Houses.one('c', 1, 4, 4, 'a', 'b', 'c', 'x', 'e', 'f'));
        checks.leads("the last", at(1, 5, 6), house -> house.append(0, 'x'), 6,
                Houses.one('c', 1, 6, 6, 'a', 'b', 'c', 'd', 'e', 'x'));
        checks.sentence("34: Returns the place then.");
        checks.leads("1", Houses.one('c', NONE, 0, 1, 5), house -> house.append(0, 'x'), 1,
                Houses.one('c', NONE, 1, 1, 'x'));
        checks.leads("64", Houses.counted('c', 64, NONE, 63, 64), house -> house.append(0, '@'), 64,
                Houses.counted('c', 64, NONE, 64, 64));
    }

    private static void appendKeepsTheLowest8Bits() {
        checks.sentence("34: sign: the sign, of which the lowest 8 bits are kept");
        int[] signs = {0, 1, 127, 128, 255, 256, 257, 511, 512, 32767, 32768, 65279, 65280, 65534, 65535};
        for (int sign : signs) {
            checks.leads("sign " + sign, Houses.one('c', NONE, 0, 1, 7), house -> house.append(0, (char) sign), 1,
                    Houses.one('c', NONE, 1, 1, sign % 256));
        }
    }

    private static void appendRefuses() {
        checks.sentence("34: Throws UnsupportedOperationException if it is not of chars, or only reads");
        for (char kind : OTHER_KINDS) {
            Checks.Plan other = Houses.one(kind, 0, 1, 3, 97, 98, 99);
            checks.refuses("of kind " + kind, other, Checks.UNSUPPORTED, house -> house.append(0, 'x'));
            checks.refuses("of a reader of kind " + kind, Houses.reader(other), Checks.UNSUPPORTED,
                    house -> house.append(0, 'x'));
            checks.refuses("with nothing left, of kind " + kind, Houses.one(kind, 0, 2, 2, 97, 98, 99),
                    Checks.UNSUPPORTED, house -> house.append(0, 'x'));
            checks.refuses("over nothing, of kind " + kind, Houses.empty(kind), Checks.UNSUPPORTED,
                    house -> house.append(0, 'x'));
        }
        checks.refuses("of a reader", Houses.reader(at(1, 2, 4)), Checks.UNSUPPORTED, house -> house.append(0, 'x'));
        checks.refuses("of a full reader", Houses.reader(at(1, 4, 4)), Checks.UNSUPPORTED,
                house -> house.append(0, 'x'));
        checks.refuses("of a reader over nothing", Houses.reader(Houses.empty('c')), Checks.UNSUPPORTED,
                house -> house.append(0, 'x'));
        checks.sentence("34: Throws IllegalStateException if nothing is left");
        checks.refuses("at the end", at(1, 4, 4), Checks.STATE, house -> house.append(0, 'x'));
        checks.refuses("at how long it is", at(1, 6, 6), Checks.STATE, house -> house.append(0, 'x'));
        checks.refuses("with an end of 0", at(0, 0, 0), Checks.STATE, house -> house.append(0, 'x'));
        checks.refuses("over nothing", Houses.empty('c'), Checks.STATE, house -> house.append(0, 'x'));
        checks.refuses("at 64", Houses.counted('c', 64, 1, 64, 64), Checks.STATE, house -> house.append(0, 'x'));
    }

    private static void text() {
        checks.windows(35, NO_WINDOW, Windowhouse::text, (7L * 31 + 3) * 31 + 4, ((7L * 31 + 15) * 31 + 16) * 31 + 17);
        checks.sentence("35: Returns a sum over what is left in a window of chars, as a text.");
        checks.tells("one, ahead of the end", at(1, 3, 4), house -> house.text(0), 7L * 31 + 'd');
        checks.tells("the last", at(1, 5, 6), house -> house.text(0), 7L * 31 + 'f');
        checks.tells("of a reader", Houses.reader(at(1, 2, 4)), house -> house.text(0), (7L * 31 + 'c') * 31 + 'd');
        checks.tells("nothing", at(1, 4, 4), house -> house.text(0), 7L);
        checks.tells("nothing at how long it is", at(1, 6, 6), house -> house.text(0), 7L);
        checks.tells("over nothing", Houses.empty('c'), house -> house.text(0), 7L);
    }

    private static void textGoesRound() {
        checks.sentence("35: Returns 7 at first, then 31 times itself plus the code of each sign; a long that goes round.");
        checks.tells("a sign of 0", Houses.one('c', NONE, 0, 1, 0), house -> house.text(0), 217L);
        checks.tells("a sign of 255", Houses.one('c', NONE, 0, 1, 255), house -> house.text(0), 472L);
        // Of signs as great as these, 6 are the first whose sum no int holds, and 12 the first that no long does.
        for (int many : new int[] {5, 6, 7, 11, 12, 13, 14, 64}) {
            long sum = 7;
            for (int i = 0; i < many; i++) {
                sum = 31 * sum + 250 + i % 6;
            }
            long want = sum;
            checks.tells(many + " signs", Houses.then(Houses.counted('c', many, NONE, 0, many), house -> {
                for (int i = 0; i < many; i++) {
                    house.putAt(0, i, 250 + i % 6);
                }
                return house;
            }), house -> house.text(0), want);
        }
        // Of signs of 0, 13 are the first: 7 times 31 to the 13th.
        BigInteger sum = BigInteger.valueOf(31).pow(13).multiply(BigInteger.valueOf(7));
        checks.tells("13 signs of 0", Houses.one('c', NONE, 0, 13, new long[13]), house -> house.text(0),
                sum.longValue());
    }

    private static void textRefuses() {
        checks.sentence("35: Throws UnsupportedOperationException if it is not of chars");
        for (char kind : OTHER_KINDS) {
            checks.refuses("of kind " + kind, Houses.one(kind, 0, 1, 3, 97, 98, 99), Checks.UNSUPPORTED,
                    house -> house.text(0));
            checks.refuses("with nothing left, of kind " + kind, Houses.one(kind, 0, 1, 1, 97, 98, 99),
                    Checks.UNSUPPORTED, house -> house.text(0));
            checks.refuses("over nothing, of kind " + kind, Houses.empty(kind), Checks.UNSUPPORTED,
                    house -> house.text(0));
        }
    }
}
