/** The edges of promises 1 to 4, a sentence of the document at a time. */
public final class RowsEdgesTest {
    private static final int MIN = Integer.MIN_VALUE;
    private static final int MAX = Integer.MAX_VALUE;

    private static final Checks checks = new Checks();

    public static void main(String[] args) {
        newObject();
        makeIsOf0s();
        makeTakesRows0And1();
        makeTakesLengths0To64();
        makeTellsHowLongItWas();
        makeRefusesOtherRows();
        makeRefusesOtherLengths();
        rowAt();
        rowAtRefuses();
        rowPut();
        rowPutTakesEveryInt();
        rowPutTellsTheFormer();
        rowPutRefuses();
        checks.finish();
    }

    /** Rows as long as that, with the numbers 1, 2, 3, .. in row 0 and -1, -2, -3, .. in row 1. */
    private static Checks.Plan rows(int length0, int length1) {
        return () -> {
            Windowhouse house = new Windowhouse();
            house.make(0, length0);
            house.make(1, length1);
            for (int i = 0; i < length0; i++) {
                house.rowPut(0, i, i + 1);
            }
            for (int i = 0; i < length1; i++) {
                house.rowPut(1, i, -i - 1);
            }
            return house;
        };
    }

    private static void newObject() {
        checks.sentence("1: Creates a house without windows, with empty rows.");
        for (int window = 0; window < 8; window++) {
            int of = window;
            checks.tells("kind", Windowhouse::new, house -> house.kind(of), '-');
            checks.refuses("capacity", Windowhouse::new, Checks.BOUNDS, house -> house.capacity(of));
        }
        for (int row = 0; row < 2; row++) {
            int of = row;
            checks.refuses("rowAt", Windowhouse::new, Checks.BOUNDS, house -> house.rowAt(of, 0));
            checks.due("make tells the former length", new Windowhouse().make(row, 1), 0);
            checks.due("wrap", new Windowhouse().wrap(0, row), 0);
        }
        Windowhouse used = rows(2, 2).house();
        used.wrap(0, 0);
        checks.due("one house is not another", Checks.wholeOf(new Windowhouse()), Checks.wholeOf(rows(0, 0).house()));
    }

    private static void makeIsOf0s() {
        checks.sentence("2: Makes a row anew, of 0s.");
        for (int length : new int[] {1, 2, 63, 64}) {
            Windowhouse house = rows(64, 2).house();
            house.make(0, length);
            for (int i = 0; i < length; i++) {
                checks.due("number " + i + " of " + length, house.rowAt(0, i), 0);
            }
            checks.due("the other row", house.rowAt(1, 0) + " " + house.rowAt(1, 1), "-1 -2");
        }
        checks.leads("as long as before", rows(2, 1), house -> house.make(0, 2), 2, Houses.then(rows(0, 1),
                house -> house.make(0, 2)));
    }

    private static void makeTakesRows0And1() {
        checks.sentence("2: row: 0 or 1");
        checks.leads("row 0", rows(2, 3), house -> house.make(0, 0), 2, rows(0, 3));
        checks.leads("row 1", rows(2, 3), house -> house.make(1, 0), 3, rows(2, 0));
    }

    private static void makeTakesLengths0To64() {
        checks.sentence("2: length: 0 to 64");
        for (int row = 0; row < 2; row++) {
            for (int length : new int[] {0, 1, 63, 64}) {
                Windowhouse house = new Windowhouse();
                checks.due("make(" + row + ", " + length + ")", house.make(row, length), 0);
                checks.due("as long as that", house.wrap(0, row), length);
            }
        }
    }

    private static void makeTellsHowLongItWas() {
        checks.sentence("2: Returns how long it was.");
        Windowhouse house = new Windowhouse();
        checks.due("of a new one", house.make(0, 64), 0);
        checks.due("of a full one", house.make(0, 64), 64);
        checks.due("of a full one", house.make(0, 0), 64);
        checks.due("of an empty one", house.make(0, 1), 0);
        checks.due("of one number", house.make(0, 0), 1);
        checks.due("of the other row", house.make(1, 5), 0);
    }

    private static void makeRefusesOtherRows() {
        checks.sentence("2: Throws IndexOutOfBoundsException if there is no such row");
        for (int row : new int[] {-1, 2, MIN, MAX}) {
            checks.refuses("make of row " + row, rows(2, 3), Checks.BOUNDS, house -> house.make(row, 1));
        }
    }

    private static void makeRefusesOtherLengths() {
        checks.sentence("2: Throws IllegalArgumentException if the length is out of range");
        for (int length : new int[] {-1, 65, MIN, MAX, 256, 65536}) {
            checks.refuses("make(0, " + length + ")", rows(2, 3), Checks.ARGUMENT, house -> house.make(0, length));
            checks.refuses("make(1, " + length + ")", rows(2, 3), Checks.ARGUMENT, house -> house.make(1, length));
        }
    }

    private static void rowAt() {
        checks.sentence("3: Returns a number of a row.");
        checks.tells("rowAt(0, 1)", rows(3, 2), house -> house.rowAt(0, 1), 2);
        checks.sentence("3: row: 0 or 1");
        checks.tells("rowAt(0, 0)", rows(3, 2), house -> house.rowAt(0, 0), 1);
        checks.tells("rowAt(1, 0)", rows(3, 2), house -> house.rowAt(1, 0), -1);
        checks.sentence("3: place: from 0");
        checks.tells("the last one", rows(3, 2), house -> house.rowAt(0, 2), 3);
        checks.tells("the last one of a full row", rows(0, 64), house -> house.rowAt(1, 63), -64);
        checks.tells("the first one of a full row", rows(0, 64), house -> house.rowAt(1, 0), -1);
        checks.sentence("3: Returns the number.");
        for (int number : new int[] {MIN, MIN + 1, -1, 0, 1, MAX - 1, MAX}) {
            checks.tells("rowAt", Houses.then(rows(2, 0), house -> house.rowPut(0, 1, number)),
                    house -> house.rowAt(0, 1), number);
        }
    }

    private static void rowAtRefuses() {
        checks.sentence("3: Throws IndexOutOfBoundsException if there is no such row, or place");
        for (int row : new int[] {-1, 2, MIN, MAX}) {
            checks.refuses("rowAt of row " + row, rows(2, 3), Checks.BOUNDS, house -> house.rowAt(row, 0));
        }
        for (int place : new int[] {-1, 2, 3, MIN, MAX}) {
            checks.refuses("rowAt(0, " + place + ")", rows(2, 4), Checks.BOUNDS, house -> house.rowAt(0, place));
        }
        checks.refuses("behind a full row", rows(0, 64), Checks.BOUNDS, house -> house.rowAt(1, 64));
        checks.refuses("of an empty row", rows(0, 3), Checks.BOUNDS, house -> house.rowAt(0, 0));
        checks.refuses("ahead of an empty row", rows(0, 3), Checks.BOUNDS, house -> house.rowAt(0, -1));
        checks.refuses("of a row that was longer", Houses.then(rows(3, 0), house -> house.make(0, 1)), Checks.BOUNDS,
                house -> house.rowAt(0, 1));
    }

    private static void rowPut() {
        checks.sentence("4: Puts a number into a row.");
        checks.leads("rowPut(0, 1, 5)", Houses.then(rows(2, 1), house -> house.rowPut(0, 1, 8)),
                house -> house.rowPut(0, 1, 2), 8, rows(2, 1));
        checks.sentence("4: row: 0 or 1");
        checks.leads("row 0", Houses.then(rows(1, 1), house -> house.rowPut(0, 0, 8)),
                house -> house.rowPut(0, 0, 1), 8, rows(1, 1));
        checks.leads("row 1", Houses.then(rows(1, 1), house -> house.rowPut(1, 0, 8)),
                house -> house.rowPut(1, 0, -1), 8, rows(1, 1));
        checks.sentence("4: place: from 0");
        Windowhouse house = rows(64, 0).house();
        checks.due("the last place of a full row", house.rowPut(0, 63, 7), 64);
        checks.due("its number", house.rowAt(0, 63), 7);
        checks.due("the one ahead of it", house.rowAt(0, 62), 63);
        checks.due("the first place", house.rowPut(0, 0, 6), 1);
        checks.due("the one behind it", house.rowAt(0, 1), 2);
    }

    private static void rowPutTakesEveryInt() {
        checks.sentence("4: value: the number");
        for (int number : new int[] {MIN, MIN + 1, -1, 0, 1, 256, 65536, MAX - 1, MAX}) {
            Windowhouse house = rows(1, 1).house();
            house.wrap(0, 1);
            house.rowPut(1, 0, number);
            checks.due("rowAt", house.rowAt(1, 0), number);
            checks.due("a window over it", house.getAt(0, 0), (long) number);
        }
    }

    private static void rowPutTellsTheFormer() {
        checks.sentence("4: Returns the one that was there.");
        Windowhouse house = rows(1, 0).house();
        checks.due("the first", house.rowPut(0, 0, MIN), 1);
        checks.due("the least", house.rowPut(0, 0, MAX), MIN);
        checks.due("the greatest", house.rowPut(0, 0, MAX), MAX);
        checks.due("the same again", house.rowPut(0, 0, 0), MAX);
        house.wrap(0, 0);
        house.putAt(0, 0, -5);
        checks.due("one that a window has put", house.rowPut(0, 0, 0), -5);
    }

    private static void rowPutRefuses() {
        checks.sentence("4: Throws IndexOutOfBoundsException if there is no such row, or place");
        for (int row : new int[] {-1, 2, MIN, MAX}) {
            checks.refuses("rowPut of row " + row, rows(2, 3), Checks.BOUNDS, house -> house.rowPut(row, 0, 9));
        }
        for (int place : new int[] {-1, 2, 3, MIN, MAX}) {
            checks.refuses("rowPut(0, " + place + ")", rows(2, 4), Checks.BOUNDS, house -> house.rowPut(0, place, 9));
        }
        checks.refuses("behind a full row", rows(0, 64), Checks.BOUNDS, house -> house.rowPut(1, 64, 9));
        checks.refuses("of an empty row", rows(0, 3), Checks.BOUNDS, house -> house.rowPut(0, 0, 9));
        checks.refuses("ahead of an empty row", rows(0, 3), Checks.BOUNDS, house -> house.rowPut(0, -1, 9));
        checks.refuses("of a row that was longer", Houses.then(rows(3, 0), house -> house.make(0, 1)), Checks.BOUNDS,
                house -> house.rowPut(0, 1, 9));
    }
}
