/** The boundary cases of promises 1 to 7, the changes, sentence by sentence. Refused calls are in RefusalTest. */
public final class ChangesEdgeTest extends Given {
    private ChangesEdgeTest() {
    }

    public static void main(String[] args) {
        aNewObjectHasNothing();
        setAnswersThePreviousValue();
        setAtTheEndsOfRanges();
        pointAnswersLeavesThen();
        pointFifty();
        takeAnswersLeavesThen();
        takeFirstAndLast();
        moveKeepsTheNumber();
        moveToItsOwnPlace();
        moveAnswersLeavesThen();
        splitLeastAndGreatest();
        splitAnswersLeavesThen();
        twelveOrders();
        putAllUpToTheFirstError();
        putAllUpToFifty();
        putAllOfNone();
        putAllIsOneChange();
        Due.end("ChangesEdgeTest");
    }

    // ---- promise 1

    /** "Creates a map without points." */
    private static void aNewObjectHasNothing() {
        int[] counts = {0, 1, 1, 0, 1, 0, 0, 2, 6, 0, 0};
        for (int what = 0; what < counts.length; what++) {
            Due.is("count(" + what + ") of a new object", new QuarterTiles().count(what), counts[what]);
        }
        for (int what = 0; what < 4; what++) {
            Due.is("window(.., " + what + ") of a new object", new QuarterTiles().window(0, 0, 63, 63, what),
                what == 0 ? 0 : 1);
            Due.is("of(0, " + what + ") of a new object", new QuarterTiles().of(0, what), NO_SUCH);
        }
        Due.is("wipe() of a new object", new QuarterTiles().wipe(), 0);
        Due.is("leastFull(1) of a new object", new QuarterTiles().leastFull(1), 1);
        Due.is("ifPut(63, 63, 0) of a new object", new QuarterTiles().ifPut(63, 63, 0), 1);
        Due.is("ifPut(63, 63, 1) of a new object", new QuarterTiles().ifPut(63, 63, 1), 0);
        QuarterTiles one = new QuarterTiles();
        QuarterTiles other = new QuarterTiles();
        one.point(1, 1);
        one.set(FULL, 8);
        one.save(0);
        text(one, "1,2");
        Due.is("another object has no points", other.count(0), 0);
        Due.is("another object has its own settings", other.count(7), 2);
        Due.is("another object has its own slots", other.restore(0), NOT_POSSIBLE);
        Due.is("another object has its own pad", other.count(9), 0);
        Due.is("another object has its own history", other.undo(), NOT_POSSIBLE);
    }

    // ---- promise 2

    /** "Returns the previous value". */
    private static void setAnswersThePreviousValue() {
        QuarterTiles tiles = new QuarterTiles();
        Due.is("the value ahead of the first", tiles.set(FULL, 8), 2);
        Due.is("the value ahead of the second", tiles.set(FULL, 8), 8);
        Due.is("a setting refused in between", tiles.set(FULL, 9), BAD_VALUE);
        Due.is("the value ahead of the third", tiles.set(FULL, 1), 8);
        Due.is("the other setting", tiles.set(DEEP, 1), 6);
        Due.is("the other setting again", tiles.set(DEEP, 6), 1);
        tiles.undo();
        Due.is("the previous value after undo", tiles.set(DEEP, 3), 1);
        Due.is("sets that record", tiles.count(10), 5);
    }

    /** "FULL (1 to 8; 2)", "DEEP (1 to 6; 6)": the least and the greatest of both, on 50 points side by side. */
    private static void setAtTheEndsOfRanges() {
        QuarterTiles tiles = withFiftyPoints();
        // split of each depth, the points being (0, 0) to (9, 4): with FULL 8 1, 1, 1, 2, 2; with FULL 2 1, 1, 1, 2, 5, 10;
        // with FULL 1 1, 1, 1, 2, 6, 15
        int[][] due = {
            // FULL, DEEP, leaves, the greatest depth
            {1, 1, 4, 1}, {8, 1, 4, 1}, {8, 6, 22, 5}, {1, 6, 79, 6}, {2, 6, 61, 6}, {2, 5, 31, 5}, {1, 5, 34, 5}};
        for (int[] each : due) {
            tiles.set(FULL, each[0]);
            tiles.set(DEEP, each[1]);
            String with = " with FULL " + each[0] + " and DEEP " + each[1];
            Due.is("leaves" + with, tiles.count(1), each[2]);
            Due.is("depth" + with, tiles.count(3), each[3]);
        }
    }

    // ---- promise 3

    /** "Returns how many leaves there are then". */
    private static void pointAnswersLeavesThen() {
        QuarterTiles tiles = new QuarterTiles();
        Due.is("the first point", tiles.point(0, 0), 1);
        Due.is("as many as FULL", tiles.point(63, 63), 1);
        Due.is("one more than FULL", tiles.point(62, 63), 4);
        Due.is("one more in the same place of depth 5", tiles.point(63, 62), 19);
        Due.is("one more in a place of its own", tiles.point(0, 63), 19);
        Due.is("leaves that are counted", tiles.count(1), 19);
        QuarterTiles ordered = withOrders(1, 4);
        Due.is("a point with orders", ordered.point(5, 5), 7);
    }

    /** "TOO_MANY if there are 50": the 50th is put. */
    private static void pointFifty() {
        QuarterTiles tiles = withFiftyPoints();
        tiles.take(49);
        Due.is("the 49 that stay", tiles.count(0), 49);
        Due.holds("the 50th point is put", tiles.point(63, 63) > 0);
        Due.is("the 50th point", tiles.of(49, 0), 63);
        Due.is("the 51st point", tiles.point(63, 62), TOO_MANY);
        Due.is("the 51st point where the 50th is", tiles.point(63, 63), NOT_POSSIBLE);
        Due.is("the 51st point beyond the map", tiles.point(63, 64), NO_SUCH);
        tiles.undo();
        Due.holds("the 50th again after undo", tiles.point(63, 62) > 0);
    }

    // ---- promise 4

    /** "Returns how many leaves there are then": down to no points. */
    private static void takeAnswersLeavesThen() {
        QuarterTiles tiles = withPoints("0,0;63,63;62,63;63,62;0,63");
        Due.is("leaves before", tiles.count(1), 19);
        Due.is("one that splits nothing is taken", tiles.take(4), 19);
        Due.is("one that splits six is taken", tiles.take(3), 4);
        Due.is("as many as FULL stay", tiles.take(0), 1);
        Due.is("one stays", tiles.take(0), 1);
        Due.is("none stays", tiles.take(0), 1);
        Due.is("none is taken", tiles.take(0), NO_SUCH);
        Due.is("the leaves of none", tiles.count(4), 1);
    }

    /** "NO_SUCH if there is no such point": the first and the last of 50 are, the next is not. */
    private static void takeFirstAndLast() {
        QuarterTiles tiles = withFiftyPoints();
        Due.is("take(50)", tiles.take(50), NO_SUCH);
        Due.holds("take(49), the last", tiles.take(49) > 0);
        Due.is("take(49) again", tiles.take(49), NO_SUCH);
        isAt("the last stays its number", tiles, 48, 8, 4);
        Due.holds("take(0), the first", tiles.take(0) > 0);
        isAt("the next is the first", tiles, 0, 1, 0);
        isAt("the last moves up", tiles, 47, 8, 4);
        Due.is("of(48, 0)", tiles.of(48, 0), NO_SUCH);
    }

    // ---- promise 5

    /** "Moves a point to another place; it keeps its number." */
    private static void moveKeepsTheNumber() {
        QuarterTiles tiles = withFiftyPoints();
        Due.holds("the first is moved", tiles.move(0, 63, 63) > 0);
        Due.holds("the last is moved", tiles.move(49, 0, 63) > 0);
        isAt("the first keeps its number", tiles, 0, 63, 63);
        isAt("the last keeps its number", tiles, 49, 0, 63);
        isAt("the second stays", tiles, 1, 1, 0);
        isAt("the last but one stays", tiles, 48, 8, 4);
        Due.is("move(50, 63, 0)", tiles.move(50, 63, 0), NO_SUCH);
        Due.is("50 points still", tiles.count(0), 50);
        Due.holds("to the place that the first left", tiles.move(1, 0, 0) > 0);
        Due.is("to the place where the first is", tiles.move(1, 63, 63), NOT_POSSIBLE);
    }

    /** "NOT_POSSIBLE if there is another point already": its own place is none of another one. */
    private static void moveToItsOwnPlace() {
        QuarterTiles tiles = withPoints("0,0;1,0;0,1");
        for (int point = 0; point < 3; point++) {
            Due.is("move of " + point + " to its own place", tiles.move(point, point % 2, point / 2), 19);
        }
        Due.is("each of them is a change", tiles.count(10), 4);
        isAt("nothing has moved", tiles, 2, 0, 1);
        Due.is("none is counted twice", tiles.tile(1, 4), 3);
        Due.is("undo of a move to its own place", tiles.undo(), 3);
        isAt("nothing has moved then", tiles, 2, 0, 1);
    }

    /** "Returns how many leaves there are then": over the sides of tiles. */
    private static void moveAnswersLeavesThen() {
        QuarterTiles tiles = withPoints("0,0;1,0;0,1");
        Due.is("out of the crowd", tiles.move(2, 63, 63), 4);
        Due.is("into the crowd", tiles.move(2, 1, 1), 19);
        Due.is("over the middle of the crowd's tile", tiles.move(2, 2, 0), 16);
        Due.is("over the middle of the map", tiles.move(2, 32, 0), 4);
        Due.is("up to the middle of the map", tiles.move(2, 31, 0), 7);
        tiles.set(FULL, 3);
        Due.is("with FULL", tiles.move(2, 1, 1), 1);
    }

    // ---- promise 6

    /** "NO_SUCH if there is no such number, or its depth is 6". */
    private static void splitLeastAndGreatest() {
        for (int depth = 0; depth < 6; depth++) {
            for (int tile : NUMBERS_OF_DEPTH[depth]) {
                QuarterTiles tiles = new QuarterTiles();
                Due.is("split(" + tile + ", true)", tiles.split(tile, true), tile == 1 ? 4 : 1);
                Due.is("tile " + tile + " is ordered", tiles.tile(tile, 6), 1);
                Due.is("split(" + tile + ", true) again", tiles.split(tile, true), NOT_POSSIBLE);
                Due.is("split(" + tile + ", false)", tiles.split(tile, false), 1);
                Due.is("tile " + tile + " is not ordered", tiles.tile(tile, 6), 0);
                Due.is("split(" + tile + ", false) again", tiles.split(tile, false), NOT_POSSIBLE);
                Due.is("both are changes", tiles.count(10), 2);
            }
            int beyond = NUMBERS_OF_DEPTH[depth][1] + 1;
            Due.is("split(" + beyond + ", true)", new QuarterTiles().split(beyond, true), NO_SUCH);
        }
        Due.is("split(4096, true)", new QuarterTiles().split(4096, true), NO_SUCH);
        Due.is("split(8191, true)", new QuarterTiles().split(8191, true), NO_SUCH);
        Due.is("split(4096, false)", new QuarterTiles().split(4096, false), NO_SUCH);
    }

    /** "Returns how many leaves there are then": also of tiles that come and go with another order. */
    private static void splitAnswersLeavesThen() {
        QuarterTiles tiles = new QuarterTiles();
        int leaves = 1;
        for (int tile : new int[] {1, 7, 31, 127, 511, 2047}) {
            leaves += 3;
            Due.is("split(" + tile + ", true)", tiles.split(tile, true), leaves);
        }
        Due.is("the one in the middle back", tiles.split(127, false), 10);
        Due.is("the first back", tiles.split(1, false), 1);
        Due.is("the first again", tiles.split(1, true), 10);
        Due.is("the one in the middle again", tiles.split(127, true), 19);
    }

    /** "TOO_MANY if it is given, and there are 12 orders": the 12th is given, and any may be taken back. */
    private static void twelveOrders() {
        int[] orders = {2047, 1, 1024, 4, 5, 6, 7, 16, 31, 64, 127, 1500};
        for (int back : orders) {
            QuarterTiles tiles = withOrders(orders);
            Due.is("12 orders", tiles.count(5), 12);
            Due.is("the 13th", tiles.split(17, true), TOO_MANY);
            Due.is("one of the 12 again", tiles.split(back, true), NOT_POSSIBLE);
            Due.is("taking back none of the 12", tiles.split(17, false), NOT_POSSIBLE);
            Due.holds("taking back " + back, tiles.split(back, false) > 0);
            Due.is("11 orders", tiles.count(5), 11);
            for (int each : orders) {
                Due.is("order " + each + " without " + back, tiles.tile(each, 6), each == back ? 0 : 1);
            }
            Due.holds("another 12th", tiles.split(17, true) > 0);
            Due.is("the 12th is there", tiles.tile(17, 6), 1);
            Due.is("the 13th then", tiles.split(back, true), TOO_MANY);
            tiles.undo();
            Due.holds("the 12th again after undo", tiles.split(back, true) > 0);
        }
    }

    // ---- promise 7

    /** "Puts the points of the pad, one after the other, up to the first one that returns an error". */
    private static void putAllUpToTheFirstError() {
        Object[][] due = {{"7,7", 0}, {"7,7;1,1;2,2", 0}, {"1,1;7,7", 1}, {"1,1;7,7;2,2", 1}, {"1,1;2,2;7,7", 2},
            {"1,1;1,1", 1}, {"1,1;2,2;1,1;3,3", 2}, {"1,1", 1}, {"0,0;63,63;0,63;63,0", 4}, {EIGHTY, 20}};
        for (Object[] each : due) {
            QuarterTiles tiles = withPoints("7,7");
            text(tiles, (String) each[0]);
            Due.is("putAll of " + each[0], tiles.putAll(), (Integer) each[1]);
            Due.is("points then", tiles.count(0), 1 + (Integer) each[1]);
            Due.is("points in the map then", tiles.tile(1, 4), 1 + (Integer) each[1]);
            Due.is("the pad is empty", tiles.count(9), 0);
            Due.is("the pad's fault then", tiles.fault(), 0);
            Due.is("putAll again", tiles.putAll(), BAD_TEXT);
            Due.is("changes", tiles.count(10), 2);
        }
        QuarterTiles eighty = withPoints(EIGHTY);
        isAt("the first of 20", eighty, 0, 10, 5);
        isAt("the second of 20", eighty, 1, 0, 5);
        isAt("the last of 20", eighty, 19, 9, 6);
    }

    /** "up to the first one that returns an error": a point of a text is refused as by point(), also if there are 50. */
    private static void putAllUpToFifty() {
        for (int free = 0; free <= 3; free++) {
            QuarterTiles tiles = withFiftyPoints();
            for (int i = 0; i < free; i++) {
                tiles.take(0);
            }
            text(tiles, "60,60;61,61;62,62");
            Due.is("putAll with " + free + " free", tiles.putAll(), free);
            Due.is("50 points", tiles.count(0), 50);
            Due.is("the pad is empty", tiles.count(9), 0);
            if (free > 0) {
                isAt("the last of them", tiles, 49, 59 + free, 59 + free);
            }
        }
    }

    /** "This is a change (one, with all of them; also if none is put)." */
    private static void putAllOfNone() {
        QuarterTiles tiles = withPoints("7,7;8,8;9,9");
        text(tiles, "7,7;1,1");
        Due.is("putAll of none", tiles.putAll(), 0);
        Due.is("putAll of none is a change", tiles.count(10), 2);
        Due.is("undo of it", tiles.undo(), 1);
        Due.is("nothing is different", tiles.count(0), 3);
        Due.is("undo of the other", tiles.undo(), 0);
        Due.is("no points", tiles.count(0), 0);
    }

    /** "A point of a text records nothing by itself." */
    private static void putAllIsOneChange() {
        QuarterTiles tiles = withPoints(EIGHTY);
        Due.is("20 points, one change", tiles.count(10), 1);
        text(tiles, "20,20;21,21");
        Due.is("two more", tiles.putAll(), 2);
        Due.is("two changes", tiles.count(10), 2);
        Due.is("undo of both points", tiles.undo(), 1);
        Due.is("20 points", tiles.count(0), 20);
        Due.is("the pad does not come back", tiles.count(9), 0);
        Due.is("undo of 20", tiles.undo(), 0);
        Due.is("no points", tiles.count(0), 0);
        Due.is("no undo", tiles.undo(), NOT_POSSIBLE);
    }
}
