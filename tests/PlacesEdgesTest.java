/** The edges of promises 9 to 21, a sentence of the document at a time. */
public final class PlacesEdgesTest {
    private static final int MIN = Integer.MIN_VALUE;
    private static final int MAX = Integer.MAX_VALUE;
    private static final int NONE = Houses.NONE;
    private static final String NO_WINDOW = "Throws IndexOutOfBoundsException if there is no such window";

    private static final Checks checks = new Checks();

    public static void main(String[] args) {
        place();
        end();
        left();
        hasLeft();
        isReadOnly();
        placeAt();
        placeAtAndTheMark();
        placeAtRefuses();
        endAt();
        endAtAndThePlace();
        endAtAndTheMark();
        endAtRefuses();
        mark();
        back();
        backRefuses();
        clear();
        flip();
        rewind();
        compactToTheBeginning();
        compactBehindIt();
        compactRefuses();
        checks.finish();
    }

    /** Six ints, 10 to 15. */
    private static Checks.Plan at(int mark, int place, int end) {
        return Houses.one('i', mark, place, end, 10, 11, 12, 13, 14, 15);
    }

    private static Checks.Plan of64(int mark, int place, int end) {
        return Houses.counted('s', 64, mark, place, end);
    }

    private static void place() {
        checks.windows(9, NO_WINDOW, Windowhouse::place, 2, 4);
        checks.sentence("9: Returns the place of a window.");
        checks.tells("of a reader", Houses.reader(at(1, 3, 5)), house -> house.place(0), 3);
        checks.sentence("9: Returns the place.");
        checks.tells("of one over nothing", Houses.empty('i'), house -> house.place(0), 0);
        checks.tells("at the beginning", of64(NONE, 0, 64), house -> house.place(0), 0);
        checks.tells("at the end of 64", of64(NONE, 64, 64), house -> house.place(0), 64);
        checks.tells("at an end of 0", at(NONE, 0, 0), house -> house.place(0), 0);
    }

    private static void end() {
        checks.windows(10, NO_WINDOW, Windowhouse::end, 4, 7);
        checks.sentence("10: Returns the end of a window.");
        checks.tells("of a reader", Houses.reader(at(1, 3, 5)), house -> house.end(0), 5);
        checks.sentence("10: Returns the end.");
        checks.tells("of one over nothing", Houses.empty('l'), house -> house.end(0), 0);
        checks.tells("an end of 0", of64(NONE, 0, 0), house -> house.end(0), 0);
        checks.tells("an end of 64", of64(NONE, 0, 64), house -> house.end(0), 64);
    }

    private static void left() {
        checks.windows(11, NO_WINDOW, Windowhouse::left, 2, 3);
        checks.sentence("11: Returns how much is left in a window.");
        checks.tells("of a reader", Houses.reader(at(1, 3, 5)), house -> house.left(0), 2);
        checks.sentence("11: Returns the end less the place.");
        checks.tells("of one over nothing", Houses.empty('c'), house -> house.left(0), 0);
        checks.tells("nothing", at(NONE, 3, 3), house -> house.left(0), 0);
        checks.tells("one", at(NONE, 3, 4), house -> house.left(0), 1);
        checks.tells("all of 64", of64(NONE, 0, 64), house -> house.left(0), 64);
        checks.tells("nothing of 64", of64(NONE, 64, 64), house -> house.left(0), 0);
    }

    private static void hasLeft() {
        checks.windows(12, NO_WINDOW, Windowhouse::hasLeft, true, true);
        checks.sentence("12: Tells whether anything is left.");
        checks.tells("of a reader", Houses.reader(at(1, 3, 5)), house -> house.hasLeft(0), true);
        checks.sentence("12: Returns whether it is.");
        checks.tells("of one over nothing", Houses.empty('s'), house -> house.hasLeft(0), false);
        checks.tells("nothing ahead of how long it is", at(NONE, 3, 3), house -> house.hasLeft(0), false);
        checks.tells("one", at(NONE, 3, 4), house -> house.hasLeft(0), true);
        checks.tells("one of 64", of64(NONE, 63, 64), house -> house.hasLeft(0), true);
        checks.tells("nothing of 64", of64(NONE, 64, 64), house -> house.hasLeft(0), false);
        checks.tells("nothing, with an end of 0", at(NONE, 0, 0), house -> house.hasLeft(0), false);
    }

    private static void isReadOnly() {
        checks.windows(13, NO_WINDOW, Windowhouse::isReadOnly, false, false);
        checks.sentence("13: Tells whether a window only reads.");
        checks.tells("a writer", at(1, 3, 5), house -> house.isReadOnly(0), false);
        checks.sentence("13: Returns whether it does.");
        checks.tells("a reader", Houses.reader(at(1, 3, 5)), house -> house.isReadOnly(0), true);
        checks.tells("a writer over nothing", Houses.empty('i'), house -> house.isReadOnly(0), false);
        checks.tells("a reader over nothing", Houses.reader(Houses.empty('i')), house -> house.isReadOnly(0), true);
        checks.tells("a writer beside its reader", Houses.then(at(1, 3, 5), house -> house.readOnly(0, 7)),
                house -> house.isReadOnly(0) + " " + house.isReadOnly(7), "false true");
    }

    private static void placeAt() {
        checks.windows(14, NO_WINDOW, (house, window) -> house.placeAt(window, 1), 2, 4);
        checks.noWindows(14, NO_WINDOW, (house, window) -> house.placeAt(window, -1));
        checks.sentence("14: place: 0 to the end");
        checks.leads("0", at(NONE, 2, 4), house -> house.placeAt(0, 0), 2, at(NONE, 0, 4));
        checks.leads("1", at(NONE, 2, 4), house -> house.placeAt(0, 1), 2, at(NONE, 1, 4));
        checks.leads("one ahead of the end", at(NONE, 2, 4), house -> house.placeAt(0, 3), 2, at(NONE, 3, 4));
        checks.leads("the end", at(NONE, 2, 4), house -> house.placeAt(0, 4), 2, at(NONE, 4, 4));
        checks.leads("how long it is", at(NONE, 2, 6), house -> house.placeAt(0, 6), 2, at(NONE, 6, 6));
        checks.leads("64", of64(NONE, 0, 64), house -> house.placeAt(0, 64), 0, of64(NONE, 64, 64));
        checks.leads("0 of nothing", Houses.empty('i'), house -> house.placeAt(0, 0), 0, Houses.empty('i'));
        checks.leads("of a reader", Houses.reader(at(NONE, 2, 4)), house -> house.placeAt(0, 4), 2,
                Houses.reader(at(NONE, 4, 4)));
        checks.sentence("14: Returns the place ahead of this.");
        checks.leads("the same again", at(NONE, 2, 4), house -> house.placeAt(0, 2), 2, at(NONE, 2, 4));
        checks.leads("from 64", of64(NONE, 64, 64), house -> house.placeAt(0, 0), 64, of64(NONE, 0, 64));
    }

    private static void placeAtAndTheMark() {
        checks.sentence("14: Tells the place; a mark that is greater is gone then.");
        checks.leads("a mark that is as great", at(2, 4, 5), house -> house.placeAt(0, 2), 4, at(2, 2, 5));
        checks.leads("a mark greater by 1", at(2, 4, 5), house -> house.placeAt(0, 1), 4, at(NONE, 1, 5));
        checks.leads("a mark lesser by 1", at(2, 4, 5), house -> house.placeAt(0, 3), 4, at(2, 3, 5));
        checks.leads("a mark of 0", at(0, 4, 5), house -> house.placeAt(0, 0), 4, at(0, 0, 5));
        checks.leads("a mark of 1", at(1, 4, 5), house -> house.placeAt(0, 0), 4, at(NONE, 0, 5));
        checks.leads("a mark of 64", of64(64, 64, 64), house -> house.placeAt(0, 64), 64, of64(64, 64, 64));
        checks.leads("a mark of 64, to 63", of64(64, 64, 64), house -> house.placeAt(0, 63), 64, of64(NONE, 63, 64));
        checks.leads("gone for good", at(2, 4, 5), house -> house.placeAt(0, 1) + house.placeAt(0, 4), 5, at(NONE, 4, 5));
    }

    private static void placeAtRefuses() {
        checks.sentence("14: Throws IllegalArgumentException if it is below 0, or beyond the end");
        for (int place : new int[] {-1, 5, 6, 7, MIN, MAX}) {
            checks.refuses("placeAt " + place, at(1, 2, 4), Checks.ARGUMENT, house -> house.placeAt(0, place));
        }
        checks.refuses("beyond how long it is", at(2, 4, 6), Checks.ARGUMENT, house -> house.placeAt(0, 7));
        checks.refuses("beyond 64", of64(1, 2, 64), Checks.ARGUMENT, house -> house.placeAt(0, 65));
        checks.refuses("beyond nothing", Houses.empty('c'), Checks.ARGUMENT, house -> house.placeAt(0, 1));
        checks.refuses("below nothing", Houses.empty('c'), Checks.ARGUMENT, house -> house.placeAt(0, -1));
        checks.refuses("beyond an end of 0", at(0, 0, 0), Checks.ARGUMENT, house -> house.placeAt(0, 1));
        checks.refuses("beyond the end of a reader", Houses.reader(at(1, 2, 4)), Checks.ARGUMENT,
                house -> house.placeAt(0, 5));
    }

    private static void endAt() {
        checks.windows(15, NO_WINDOW, (house, window) -> house.endAt(window, 5), 4, 7);
        checks.noWindows(15, NO_WINDOW, (house, window) -> house.endAt(window, -1));
        checks.sentence("15: end: 0 to how long it is");
        checks.leads("0", at(NONE, 0, 4), house -> house.endAt(0, 0), 4, at(NONE, 0, 0));
        checks.leads("1", at(NONE, 0, 4), house -> house.endAt(0, 1), 4, at(NONE, 0, 1));
        checks.leads("one less than how long it is", at(NONE, 2, 4), house -> house.endAt(0, 5), 4, at(NONE, 2, 5));
        checks.leads("how long it is", at(NONE, 2, 4), house -> house.endAt(0, 6), 4, at(NONE, 2, 6));
        checks.leads("64", of64(NONE, 0, 63), house -> house.endAt(0, 64), 63, of64(NONE, 0, 64));
        checks.leads("0 of nothing", Houses.empty('i'), house -> house.endAt(0, 0), 0, Houses.empty('i'));
        checks.leads("of a reader", Houses.reader(at(NONE, 2, 4)), house -> house.endAt(0, 6), 4,
                Houses.reader(at(NONE, 2, 6)));
        checks.sentence("15: Returns the end ahead of this.");
        checks.leads("the same again", at(1, 2, 4), house -> house.endAt(0, 4), 4, at(1, 2, 4));
        checks.leads("from 64", of64(NONE, 0, 64), house -> house.endAt(0, 0), 64, of64(NONE, 0, 0));
        checks.leads("from 0", of64(NONE, 0, 0), house -> house.endAt(0, 64), 0, of64(NONE, 0, 64));
    }

    private static void endAtAndThePlace() {
        checks.sentence("15: Tells the end; a place that is greater becomes it, and a mark that is greater is gone then.");
        checks.leads("a place lesser by 1", at(NONE, 3, 6), house -> house.endAt(0, 4), 6, at(NONE, 3, 4));
        checks.leads("a place that is as great", at(NONE, 3, 6), house -> house.endAt(0, 3), 6, at(NONE, 3, 3));
        checks.leads("a place greater by 1", at(NONE, 3, 6), house -> house.endAt(0, 2), 6, at(NONE, 2, 2));
        checks.leads("a place of 6, to 0", at(NONE, 6, 6), house -> house.endAt(0, 0), 6, at(NONE, 0, 0));
        checks.leads("a place that became it stays", at(NONE, 5, 6),
                house -> house.endAt(0, 2) + house.endAt(0, 6), 8, at(NONE, 2, 6));
        checks.leads("a place of 64", of64(NONE, 64, 64), house -> house.endAt(0, 63), 64, of64(NONE, 63, 63));
    }

    private static void endAtAndTheMark() {
        checks.sentence("15: Tells the end; a place that is greater becomes it, and a mark that is greater is gone then.");
        checks.leads("a mark lesser by 1", at(2, 4, 6), house -> house.endAt(0, 3), 6, at(2, 3, 3));
        checks.leads("a mark that is as great", at(2, 4, 6), house -> house.endAt(0, 2), 6, at(2, 2, 2));
        checks.leads("a mark greater by 1", at(2, 4, 6), house -> house.endAt(0, 1), 6, at(NONE, 1, 1));
        checks.leads("a mark at the place, both greater", at(4, 4, 6), house -> house.endAt(0, 3), 6, at(NONE, 3, 3));
        checks.leads("a mark of 0", at(0, 4, 6), house -> house.endAt(0, 0), 6, at(0, 0, 0));
        checks.leads("a mark of 1", at(1, 4, 6), house -> house.endAt(0, 0), 6, at(NONE, 0, 0));
        checks.leads("a mark of 64", of64(64, 64, 64), house -> house.endAt(0, 63), 64, of64(NONE, 63, 63));
        checks.leads("gone for good", at(2, 4, 6), house -> house.endAt(0, 1) + house.endAt(0, 6), 7, at(NONE, 1, 6));
    }

    private static void endAtRefuses() {
        checks.sentence("15: Throws IllegalArgumentException if it is below 0, or beyond how long it is");
        for (int end : new int[] {-1, 7, 64, MIN, MAX}) {
            checks.refuses("endAt " + end, at(1, 2, 4), Checks.ARGUMENT, house -> house.endAt(0, end));
        }
        checks.refuses("beyond 64", of64(1, 2, 64), Checks.ARGUMENT, house -> house.endAt(0, 65));
        checks.refuses("beyond nothing", Houses.empty('s'), Checks.ARGUMENT, house -> house.endAt(0, 1));
        checks.refuses("below nothing", Houses.empty('s'), Checks.ARGUMENT, house -> house.endAt(0, -1));
        checks.refuses("beyond a slice, though its store goes on", Houses.then(at(1, 2, 4), house -> house.slice(0, 0)),
                Checks.ARGUMENT, house -> house.endAt(0, 3));
    }

    private static void mark() {
        checks.windows(16, NO_WINDOW, Windowhouse::mark, 2, 4);
        checks.sentence("16: Marks the place.");
        checks.leads("without a mark", at(NONE, 2, 4), house -> house.mark(0), 2, at(2, 2, 4));
        checks.leads("with a lesser mark", at(1, 2, 4), house -> house.mark(0), 2, at(2, 2, 4));
        checks.leads("with that very mark", at(2, 2, 4), house -> house.mark(0), 2, at(2, 2, 4));
        checks.leads("of a reader", Houses.reader(at(NONE, 2, 4)), house -> house.mark(0), 2,
                Houses.reader(at(2, 2, 4)));
        checks.sentence("16: Returns the place.");
        checks.leads("0", at(NONE, 0, 4), house -> house.mark(0), 0, at(0, 0, 4));
        checks.leads("the end", at(NONE, 4, 4), house -> house.mark(0), 4, at(4, 4, 4));
        checks.leads("64", of64(NONE, 64, 64), house -> house.mark(0), 64, of64(64, 64, 64));
        checks.leads("of nothing", Houses.empty('l'), house -> house.mark(0), 0, Houses.counted('l', 0, 0, 0, 0));
    }

    private static void back() {
        checks.windows(17, NO_WINDOW, Windowhouse::back, 1, 2);
        checks.sentence("17: Goes back to the mark, which stays.");
        checks.leads("from behind it", at(1, 4, 5), house -> house.back(0), 3, at(1, 1, 5));
        checks.leads("twice", at(1, 4, 5), house -> house.back(0) * 10 + house.back(0), 30, at(1, 1, 5));
        checks.leads("of a reader", Houses.reader(at(1, 4, 5)), house -> house.back(0), 3, Houses.reader(at(1, 1, 5)));
        checks.sentence("17: Returns by how many places it went back.");
        checks.leads("0, at the mark", at(4, 4, 5), house -> house.back(0), 0, at(4, 4, 5));
        checks.leads("1", at(3, 4, 5), house -> house.back(0), 1, at(3, 3, 5));
        checks.leads("to a mark of 0", at(0, 4, 5), house -> house.back(0), 4, at(0, 0, 5));
        checks.leads("at a mark of 0", at(0, 0, 5), house -> house.back(0), 0, at(0, 0, 5));
        checks.leads("64", of64(0, 64, 64), house -> house.back(0), 64, of64(0, 0, 64));
        checks.leads("of nothing", Houses.counted('c', 0, 0, 0, 0), house -> house.back(0), 0,
                Houses.counted('c', 0, 0, 0, 0));
    }

    private static void backRefuses() {
        checks.sentence("17: Throws IllegalStateException if there is none");
        checks.refuses("of a new one", at(NONE, 0, 6), Checks.STATE, house -> house.back(0));
        checks.refuses("of one over nothing", Houses.empty('i'), Checks.STATE, house -> house.back(0));
        checks.refuses("of one whose mark is gone", Houses.then(at(2, 2, 6), house -> house.rewind(0)), Checks.STATE,
                house -> house.back(0));
        checks.refuses("of one whose place is behind 0", at(NONE, 3, 6), Checks.STATE, house -> house.back(0));
        checks.refuses("of a reader", Houses.reader(at(NONE, 3, 6)), Checks.STATE, house -> house.back(0));
    }

    private static void clear() {
        checks.windows(18, NO_WINDOW, Windowhouse::clear, 6, 8);
        checks.sentence("18: Makes the place 0, and the end as far as it goes; a mark is gone. No value changes.");
        checks.leads("place and end", at(NONE, 2, 4), house -> house.clear(0), 6, at(NONE, 0, 6));
        checks.leads("a mark", at(1, 2, 4), house -> house.clear(0), 6, at(NONE, 0, 6));
        checks.leads("a mark of 0", at(0, 0, 6), house -> house.clear(0), 6, at(NONE, 0, 6));
        checks.leads("an end of 0", at(NONE, 0, 0), house -> house.clear(0), 6, at(NONE, 0, 6));
        checks.leads("a slice, no further than it goes", Houses.then(at(NONE, 2, 4), house -> house.slice(0, 0),
                house -> house.endAt(0, 1)), house -> house.clear(0), 2,
                Houses.then(at(NONE, 2, 4), house -> house.slice(0, 0)));
        checks.leads("of a reader", Houses.reader(at(1, 2, 4)), house -> house.clear(0), 6,
                Houses.reader(at(NONE, 0, 6)));
        checks.sentence("18: Returns the end.");
        checks.leads("of 64", of64(3, 9, 9), house -> house.clear(0), 64, of64(NONE, 0, 64));
        checks.leads("of nothing", Houses.counted('l', 0, 0, 0, 0), house -> house.clear(0), 0, Houses.empty('l'));
    }

    private static void flip() {
        checks.windows(19, NO_WINDOW, Windowhouse::flip, 2, 4);
        checks.sentence("19: Makes the end the place, and the place 0; a mark is gone.");
        checks.leads("place and end", at(NONE, 2, 4), house -> house.flip(0), 2, at(NONE, 0, 2));
        checks.leads("a mark", at(1, 2, 4), house -> house.flip(0), 2, at(NONE, 0, 2));
        checks.leads("a mark of 0", at(0, 2, 4), house -> house.flip(0), 2, at(NONE, 0, 2));
        checks.leads("of a reader", Houses.reader(at(1, 2, 4)), house -> house.flip(0), 2,
                Houses.reader(at(NONE, 0, 2)));
        checks.sentence("19: Returns the end.");
        checks.leads("at the beginning", at(NONE, 0, 4), house -> house.flip(0), 0, at(NONE, 0, 0));
        checks.leads("at the end", at(NONE, 4, 4), house -> house.flip(0), 4, at(NONE, 0, 4));
        checks.leads("twice", at(NONE, 4, 4), house -> house.flip(0) * 10 + house.flip(0), 40, at(NONE, 0, 0));
        checks.leads("at 64", of64(5, 64, 64), house -> house.flip(0), 64, of64(NONE, 0, 64));
        checks.leads("of nothing", Houses.counted('s', 0, 0, 0, 0), house -> house.flip(0), 0, Houses.empty('s'));
    }

    private static void rewind() {
        checks.windows(20, NO_WINDOW, Windowhouse::rewind, 4, 7);
        checks.sentence("20: Makes the place 0; a mark is gone.");
        checks.leads("the place", at(NONE, 2, 4), house -> house.rewind(0), 4, at(NONE, 0, 4));
        checks.leads("a mark", at(1, 2, 4), house -> house.rewind(0), 4, at(NONE, 0, 4));
        checks.leads("a mark of 0", at(0, 0, 4), house -> house.rewind(0), 4, at(NONE, 0, 4));
        checks.leads("of a reader", Houses.reader(at(1, 2, 4)), house -> house.rewind(0), 4,
                Houses.reader(at(NONE, 0, 4)));
        checks.sentence("20: Returns how much is left.");
        checks.leads("with an end of 0", at(0, 0, 0), house -> house.rewind(0), 0, at(NONE, 0, 0));
        checks.leads("at the end", at(NONE, 4, 4), house -> house.rewind(0), 4, at(NONE, 0, 4));
        checks.leads("of 64", of64(5, 64, 64), house -> house.rewind(0), 64, of64(NONE, 0, 64));
        checks.leads("of nothing", Houses.counted('c', 0, 0, 0, 0), house -> house.rewind(0), 0, Houses.empty('c'));
    }

    private static void compactToTheBeginning() {
        checks.windows(21, NO_WINDOW, Windowhouse::compact, 2, 3);
        checks.sentence("21: Brings what is left to the beginning, in order; the place is behind it then, the end as far"
                + " as it goes; a mark is gone. Values behind it stay as they are.");
        checks.leads("one", at(NONE, 3, 4), house -> house.compact(0), 1,
                Houses.one('i', NONE, 1, 6, 13, 11, 12, 13, 14, 15));
        checks.leads("two, apart", at(NONE, 3, 5), house -> house.compact(0), 2,
                Houses.one('i', NONE, 2, 6, 13, 14, 12, 13, 14, 15));
        checks.leads("five, by one", at(NONE, 1, 6), house -> house.compact(0), 5,
                Houses.one('i', NONE, 5, 6, 11, 12, 13, 14, 15, 15));
        checks.leads("nothing", at(NONE, 3, 3), house -> house.compact(0), 0, at(NONE, 0, 6));
        checks.leads("nothing at how long it is", at(NONE, 6, 6), house -> house.compact(0), 0, at(NONE, 0, 6));
        checks.leads("all", at(NONE, 0, 6), house -> house.compact(0), 6, at(NONE, 6, 6));
        checks.leads("from the beginning", at(NONE, 0, 4), house -> house.compact(0), 4, at(NONE, 4, 6));
        checks.leads("a mark", at(1, 1, 1), house -> house.compact(0), 0, at(NONE, 0, 6));
        checks.leads("a mark of 0", at(0, 0, 6), house -> house.compact(0), 6, at(NONE, 6, 6));
    }

    private static void compactBehindIt() {
        checks.sentence("21: Brings what is left to the beginning, in order; the place is behind it then, the end as far"
                + " as it goes; a mark is gone. Values behind it stay as they are.");
        for (char kind : new char[] {'i', 'l', 'c', 's'}) {
            checks.leads("of kind " + kind, Houses.one(kind, 1, 2, 4, 1, 2, 3, 4, 5), house -> house.compact(0), 2,
                    Houses.one(kind, NONE, 2, 5, 3, 4, 3, 4, 5));
        }
        Windowhouse sliced = at(NONE, 1, 5).house();
        sliced.slice(0, 1);
        sliced.placeAt(1, 2);
        checks.due("a slice", sliced.compact(1), 2);
        sliced.clear(0);
        checks.due("its store, ahead and behind too", Checks.valuesOf(sliced, 0), "10 13 14 13 14 15");
        sliced.make(0, 3);
        sliced.rowPut(0, 2, 8);
        sliced.wrap(2, 0);
        sliced.placeAt(2, 2);
        sliced.compact(2);
        checks.due("a row", sliced.rowAt(0, 0) + " " + sliced.rowAt(0, 1) + " " + sliced.rowAt(0, 2), "8 0 8");
        checks.sentence("21: Returns the place.");
        checks.leads("of 64, all", of64(0, 0, 64), house -> house.compact(0), 64,
                of64(NONE, 64, 64));
        checks.leads("of 64, nothing", of64(3, 64, 64), house -> house.compact(0), 0, of64(NONE, 0, 64));
        checks.leads("of nothing", Houses.counted('i', 0, 0, 0, 0), house -> house.compact(0), 0, Houses.empty('i'));
    }

    private static void compactRefuses() {
        checks.sentence("21: Throws UnsupportedOperationException if it only reads");
        checks.refuses("with something left", Houses.reader(at(1, 2, 4)), Checks.UNSUPPORTED, house -> house.compact(0));
        checks.refuses("with nothing left", Houses.reader(at(1, 4, 4)), Checks.UNSUPPORTED, house -> house.compact(0));
        checks.refuses("with all left", Houses.reader(at(0, 0, 6)), Checks.UNSUPPORTED, house -> house.compact(0));
        checks.refuses("over nothing", Houses.reader(Houses.empty('l')), Checks.UNSUPPORTED, house -> house.compact(0));
    }
}
