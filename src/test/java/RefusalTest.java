/**
 * Each error of each method, and which of several comes first; and that a call that returns an error, as one that only
 * asks, changes nothing and records nothing: it is made on one of two equal objects, and no difference can be seen then.
 */
public final class RefusalTest extends Given {
    private RefusalTest() {
    }

    /** Makes an object, an equal one each time. */
    private interface Making {
        QuarterTiles made();
    }

    public static void main(String[] args) {
        objectsAreAsTold();
        setsRefused();
        placesRefused();
        pointsRefused();
        numbersRefused();
        whatsRefused();
        windowsRefused();
        textsRefused();
        slotsRefused();
        pointWhereOneIs();
        pointFiftyOne();
        moveToAnotherPoint();
        orderAsItIs();
        orderThirteen();
        textWithAFault();
        padTooLong();
        undoOfNothing();
        slotNotSavedIn();
        leafThatIsNone();
        noneIsNoError();
        questionsChangeNothing();
        Due.end("RefusalTest");
    }

    // ---- objects

    /** Three points, two orders, settings, one slot, more changes than the history holds, a text. */
    private static QuarterTiles ordinary() {
        QuarterTiles tiles = new QuarterTiles();
        tiles.set(FULL, 1);
        tiles.set(DEEP, 5);
        tiles.split(7, true);
        tiles.split(64, true);
        tiles.point(1, 1);
        tiles.point(2, 2);
        tiles.save(0);
        tiles.point(40, 40);
        text(tiles, "10,10;11,11");
        return tiles;
    }

    /** One point, two changes, the other slot, a text with a fault. */
    private static QuarterTiles little() {
        QuarterTiles tiles = new QuarterTiles();
        tiles.point(5, 5);
        tiles.save(1);
        tiles.set(FULL, 3);
        text(tiles, "1,");
        return tiles;
    }

    /** 50 points, 12 orders, 80 characters, both slots, a full history. */
    private static QuarterTiles crowded() {
        QuarterTiles tiles = withPoints("1,0");
        tiles.save(0);
        tiles.set(DEEP, 4);
        tiles.save(1);
        for (int order : new int[] {1, 4, 5, 6, 7, 16, 31, 64, 127, 1024, 1365, 2047}) {
            tiles.split(order, true);
        }
        for (int i = 0; i < 50; i++) {
            tiles.point(i % 10, i / 10);
        }
        text(tiles, EIGHTY);
        return tiles;
    }

    private static void objectsAreAsTold() {
        counted("ordinary", ordinary(), 3, 2, 11, 6);
        counted("little", little(), 1, 0, 2, 2);
        counted("crowded", crowded(), 50, 12, 80, 6);
    }

    private static void counted(String object, QuarterTiles tiles, int points, int orders, int length, int changes) {
        Due.is(object + ": points", tiles.count(0), points);
        Due.is(object + ": orders", tiles.count(5), orders);
        Due.is(object + ": length of the pad", tiles.count(9), length);
        Due.is(object + ": changes", tiles.count(10), changes);
    }

    // ---- refusals

    private static void refused(Making making, String call, Call refused, int due) {
        QuarterTiles called = making.made();
        QuarterTiles spared = making.made();
        Due.is(call, refused.on(called), due);
        Due.holds(call + " changes nothing", Sight.of(called).equals(Sight.of(spared)));
    }

    /** For arguments that are wrong whatever there is. */
    private static void refusedAlways(String call, Call refused, int due) {
        refused(QuarterTiles::new, call + " on a new object", refused, due);
        refused(RefusalTest::little, call + " on a little", refused, due);
        refused(RefusalTest::ordinary, call, refused, due);
        refused(RefusalTest::crowded, call + " with as much as there may be", refused, due);
    }

    /** "BAD_VALUE if there is no such setting, or the value is out of its range". */
    private static void setsRefused() {
        int[][] wrong = {{-1, 1}, {2, 1}, {LEAST, 1}, {GREATEST, 1}, {-1, 0}, {2, 9}, {FULL, 0}, {FULL, 9}, {FULL, -1},
            {FULL, LEAST}, {FULL, GREATEST}, {DEEP, 0}, {DEEP, 7}, {DEEP, 8}, {DEEP, LEAST}, {DEEP, GREATEST}};
        for (int[] each : wrong) {
            refusedAlways("set(" + each[0] + ", " + each[1] + ")", tiles -> tiles.set(each[0], each[1]), BAD_VALUE);
        }
    }

    /** "NO_SUCH if there is no such place", ahead of all else. */
    private static void placesRefused() {
        for (int wrong : NO_COORDINATES) {
            placeRefused(wrong, 0);
            placeRefused(0, wrong);
            placeRefused(63, wrong);
            placeRefused(wrong, wrong);
        }
    }

    private static void placeRefused(int x, int y) {
        String place = "(" + x + ", " + y;
        refusedAlways("point" + place + ")", tiles -> tiles.point(x, y), NO_SUCH);
        refusedAlways("move of 0 to " + place + ")", tiles -> tiles.move(0, x, y), NO_SUCH);
        refusedAlways("leafAt" + place + ")", tiles -> tiles.leafAt(x, y), NO_SUCH);
        for (int what : new int[] {0, 1, -1, 2}) {
            refusedAlways("nearest" + place + ", " + what + ")", tiles -> tiles.nearest(x, y, what), NO_SUCH);
            refusedAlways("ifPut" + place + ", " + what + ")", tiles -> tiles.ifPut(x, y, what), NO_SUCH);
        }
    }

    /** "NO_SUCH if there is no such point", ahead of what is wrong besides. */
    private static void pointsRefused() {
        for (int wrong : new int[] {-1, 50, LEAST, GREATEST}) {
            pointRefused(QuarterTiles::new, wrong);
            pointRefused(RefusalTest::ordinary, wrong);
            pointRefused(RefusalTest::crowded, wrong);
        }
        pointRefused(QuarterTiles::new, 0);
        pointRefused(RefusalTest::little, 1);
        pointRefused(RefusalTest::ordinary, 3);
    }

    private static void pointRefused(Making making, int point) {
        refused(making, "take(" + point + ")", tiles -> tiles.take(point), NO_SUCH);
        refused(making, "move(" + point + ", 20, 20)", tiles -> tiles.move(point, 20, 20), NO_SUCH);
        refused(making, "move(" + point + ", 1, 1), where a point is", tiles -> tiles.move(point, 1, 1), NO_SUCH);
        refused(making, "move(" + point + ", 64, 0)", tiles -> tiles.move(point, 64, 0), NO_SUCH);
        for (int what : new int[] {0, 1, 2, 3, -1, 4}) {
            refused(making, "of(" + point + ", " + what + ")", tiles -> tiles.of(point, what), NO_SUCH);
        }
    }

    /** "NO_SUCH if there is no such number", ahead of what is wrong besides; also "or its depth is 6". */
    private static void numbersRefused() {
        for (int wrong : NO_NUMBERS) {
            splitRefused(wrong);
            numberRefused(wrong);
        }
        for (int deepest : new int[] {4096, 4097, 5461, 8190, 8191}) {
            splitRefused(deepest);
        }
    }

    private static void splitRefused(int tile) {
        refusedAlways("split(" + tile + ", true)", tiles -> tiles.split(tile, true), NO_SUCH);
        refusedAlways("split(" + tile + ", false)", tiles -> tiles.split(tile, false), NO_SUCH);
    }

    private static void numberRefused(int tile) {
        for (int what : new int[] {-1, 0, 4, 5, 7, 8}) {
            refusedAlways("tile(" + tile + ", " + what + ")", tiles -> tiles.tile(tile, what), NO_SUCH);
        }
        for (int place : new int[] {-1, 0, 5, 6}) {
            refusedAlways("letter(" + tile + ", " + place + ")", tiles -> tiles.letter(tile, place), NO_SUCH);
        }
        refusedAlways("beside(" + tile + ", 0, 0)", tiles -> tiles.beside(tile, 0, 0), NO_SUCH);
        refusedAlways("beside(" + tile + ", 7, 1)", tiles -> tiles.beside(tile, 7, 1), NO_SUCH);
        refusedAlways("beside(" + tile + ", 8, 0)", tiles -> tiles.beside(tile, 8, 0), NO_SUCH);
        refusedAlways("beside(" + tile + ", 0, 2)", tiles -> tiles.beside(tile, 0, 2), NO_SUCH);
        refusedAlways("neighbours(" + tile + ")", tiles -> tiles.neighbours(tile), NO_SUCH);
    }

    /** "BAD_VALUE if what is out of range" and the like; "NO_SUCH if .. the path has not so many letters". */
    private static void whatsRefused() {
        for (int wrong : new int[] {-1, LEAST, GREATEST}) {
            whatRefused(wrong);
        }
        for (int wrong : new int[] {0, -1, 4097, LEAST, GREATEST}) {
            refusedAlways("leastFull(" + wrong + ")", tiles -> tiles.leastFull(wrong), BAD_VALUE);
        }
        refused(RefusalTest::ordinary, "of(2, 4)", tiles -> tiles.of(2, 4), BAD_VALUE);
        refused(RefusalTest::crowded, "of(49, 4)", tiles -> tiles.of(49, 4), BAD_VALUE);
        refusedAlways("tile(1, 8)", tiles -> tiles.tile(1, 8), BAD_VALUE);
        refusedAlways("tile(8191, 8)", tiles -> tiles.tile(8191, 8), BAD_VALUE);
        refusedAlways("letter(1, 0)", tiles -> tiles.letter(1, 0), NO_SUCH);
        refusedAlways("letter(7, 1)", tiles -> tiles.letter(7, 1), NO_SUCH);
        refusedAlways("letter(8191, 6)", tiles -> tiles.letter(8191, 6), NO_SUCH);
        refusedAlways("beside(4, 8, 0)", tiles -> tiles.beside(4, 8, 0), BAD_VALUE);
        refusedAlways("beside(4, 0, 2)", tiles -> tiles.beside(4, 0, 2), BAD_VALUE);
        refusedAlways("beside(8191, 0, 2), beyond the map", tiles -> tiles.beside(8191, 0, 2), BAD_VALUE);
        refusedAlways("beside(1, 8, 1), beyond the map", tiles -> tiles.beside(1, 8, 1), BAD_VALUE);
        refusedAlways("count(11)", tiles -> tiles.count(11), BAD_VALUE);
        refusedAlways("nearest(0, 0, 2)", tiles -> tiles.nearest(0, 0, 2), BAD_VALUE);
        refusedAlways("ifPut(63, 63, 2)", tiles -> tiles.ifPut(63, 63, 2), BAD_VALUE);
    }

    private static void whatRefused(int wrong) {
        refused(RefusalTest::ordinary, "of(0, " + wrong + ")", tiles -> tiles.of(0, wrong), BAD_VALUE);
        refusedAlways("tile(1, " + wrong + ")", tiles -> tiles.tile(1, wrong), BAD_VALUE);
        refusedAlways("letter(8191, " + wrong + ")", tiles -> tiles.letter(8191, wrong), NO_SUCH);
        refusedAlways("beside(4, " + wrong + ", 0)", tiles -> tiles.beside(4, wrong, 0), BAD_VALUE);
        refusedAlways("beside(4, 0, " + wrong + ")", tiles -> tiles.beside(4, 0, wrong), BAD_VALUE);
        refusedAlways("count(" + wrong + ")", tiles -> tiles.count(wrong), BAD_VALUE);
        refusedAlways("window(0, 0, 0, 0, " + wrong + ")", tiles -> tiles.window(0, 0, 0, 0, wrong), BAD_VALUE);
        refusedAlways("nearest(0, 0, " + wrong + ")", tiles -> tiles.nearest(0, 0, wrong), BAD_VALUE);
        refusedAlways("ifPut(63, 63, " + wrong + ")", tiles -> tiles.ifPut(63, 63, wrong), BAD_VALUE);
    }

    /**
     * "NO_SUCH if there is no such place; BAD_VALUE if toX or toY is below x or y, or what is out of range": a method
     * "names its errors in the order in which they are checked, and the first one that applies is returned", so a
     * coordinate off the map goes ahead of all else.
     */
    private static void windowsRefused() {
        for (int wrong : NO_COORDINATES) {
            int[][] places = {{wrong, 5, 9, 9, 0}, {5, wrong, 9, 9, 1}, {5, 5, wrong, 9, 2}, {5, 5, 9, wrong, 3},
                {wrong, 5, 9, 4, 0}, {5, wrong, 4, 9, 0}, {5, 5, wrong, 4, 0}, {5, 5, 4, wrong, 0}, {5, 5, 9, wrong, 4},
                {wrong, 5, 9, 9, -1}, {wrong, wrong, wrong, wrong, 0}};
            for (int[] each : places) {
                windowRefused(each, NO_SUCH);
            }
        }
        int[][] values = {{5, 5, 4, 5, 0}, {5, 5, 5, 4, 1}, {63, 0, 0, 63, 2}, {0, 63, 63, 0, 3}, {5, 5, 4, 4, 4},
            {0, 0, 63, 63, 4}, {63, 63, 63, 63, 4}};
        for (int[] each : values) {
            windowRefused(each, BAD_VALUE);
        }
    }

    private static void windowRefused(int[] each, int due) {
        String call = "window(" + each[0] + ", " + each[1] + ", " + each[2] + ", " + each[3] + ", " + each[4] + ")";
        refusedAlways(call, tiles -> tiles.window(each[0], each[1], each[2], each[3], each[4]), due);
    }

    /** "BAD_VALUE if there is no character, a code is not 33 to 126, or a bit above 8 bits that are 0 is not 0". */
    private static void textsRefused() {
        long[] wrong = {0, 32, 127, 128, 255, -1, 0x3120, 0x2031, 0x317f, 0x7f31, 0x3100, 0x310031, 0x2031313131313131L,
            0x7f31313131313131L, 0xb131313131313131L, 0x3131313131313120L, 0x313131313131317fL, 0x3131313100313131L,
            0x0100000000000031L, Long.MIN_VALUE, Long.MIN_VALUE + 0x31, Long.MAX_VALUE};
        for (long each : wrong) {
            refusedAlways("put(" + Long.toHexString(each) + ")", tiles -> tiles.put(each), BAD_VALUE);
        }
    }

    /** "BAD_VALUE if there is no such slot", also if nothing was saved. */
    private static void slotsRefused() {
        for (int wrong : new int[] {-1, 2, LEAST, GREATEST}) {
            refusedAlways("save(" + wrong + ")", tiles -> tiles.save(wrong), BAD_VALUE);
            refusedAlways("restore(" + wrong + ")", tiles -> tiles.restore(wrong), BAD_VALUE);
        }
    }

    // ---- what depends on what there is

    /** "NOT_POSSIBLE if there is a point already", behind a wrong what. */
    private static void pointWhereOneIs() {
        refused(RefusalTest::ordinary, "point(1, 1)", tiles -> tiles.point(1, 1), NOT_POSSIBLE);
        refused(RefusalTest::ordinary, "point(40, 40)", tiles -> tiles.point(40, 40), NOT_POSSIBLE);
        refused(RefusalTest::ordinary, "ifPut(1, 1, 0)", tiles -> tiles.ifPut(1, 1, 0), NOT_POSSIBLE);
        refused(RefusalTest::ordinary, "ifPut(40, 40, 1)", tiles -> tiles.ifPut(40, 40, 1), NOT_POSSIBLE);
        refused(RefusalTest::ordinary, "ifPut(40, 40, 2)", tiles -> tiles.ifPut(40, 40, 2), BAD_VALUE);
    }

    /** "TOO_MANY if there are 50", behind all other errors. */
    private static void pointFiftyOne() {
        refused(RefusalTest::crowded, "point 51", tiles -> tiles.point(63, 63), TOO_MANY);
        refused(RefusalTest::crowded, "point 51 where one is", tiles -> tiles.point(0, 0), NOT_POSSIBLE);
        refused(RefusalTest::crowded, "point 51 where the last one is", tiles -> tiles.point(9, 4), NOT_POSSIBLE);
        refused(RefusalTest::crowded, "ifPut of point 51", tiles -> tiles.ifPut(63, 63, 0), TOO_MANY);
        refused(RefusalTest::crowded, "ifPut of point 51, depth", tiles -> tiles.ifPut(63, 63, 1), TOO_MANY);
        refused(RefusalTest::crowded, "ifPut of point 51 where one is", tiles -> tiles.ifPut(9, 4, 1), NOT_POSSIBLE);
        refused(RefusalTest::crowded, "ifPut of point 51 where one is, 2", tiles -> tiles.ifPut(9, 4, 2), BAD_VALUE);
    }

    /** "NOT_POSSIBLE if there is another point already". */
    private static void moveToAnotherPoint() {
        refused(RefusalTest::ordinary, "move(0, 40, 40)", tiles -> tiles.move(0, 40, 40), NOT_POSSIBLE);
        refused(RefusalTest::ordinary, "move(2, 1, 1)", tiles -> tiles.move(2, 1, 1), NOT_POSSIBLE);
        refused(RefusalTest::crowded, "move(0, 9, 4)", tiles -> tiles.move(0, 9, 4), NOT_POSSIBLE);
        refused(RefusalTest::crowded, "move(49, 0, 0)", tiles -> tiles.move(49, 0, 0), NOT_POSSIBLE);
    }

    /** "NOT_POSSIBLE if the order is so already". */
    private static void orderAsItIs() {
        refused(RefusalTest::ordinary, "split(7, true)", tiles -> tiles.split(7, true), NOT_POSSIBLE);
        refused(RefusalTest::ordinary, "split(64, true)", tiles -> tiles.split(64, true), NOT_POSSIBLE);
        refused(RefusalTest::ordinary, "split(4, false), split by points", tiles -> tiles.split(4, false), NOT_POSSIBLE);
        refused(QuarterTiles::new, "split(1, false)", tiles -> tiles.split(1, false), NOT_POSSIBLE);
        refused(QuarterTiles::new, "split(2047, false)", tiles -> tiles.split(2047, false), NOT_POSSIBLE);
    }

    /** "TOO_MANY if it is given, and there are 12 orders", behind the other errors. */
    private static void orderThirteen() {
        refused(RefusalTest::crowded, "order 13", tiles -> tiles.split(17, true), TOO_MANY);
        refused(RefusalTest::crowded, "order 13, a tile not there", tiles -> tiles.split(2046, true), TOO_MANY);
        refused(RefusalTest::crowded, "the first order again", tiles -> tiles.split(1, true), NOT_POSSIBLE);
        refused(RefusalTest::crowded, "the last order again", tiles -> tiles.split(2047, true), NOT_POSSIBLE);
        refused(RefusalTest::crowded, "no order taken back", tiles -> tiles.split(17, false), NOT_POSSIBLE);
    }

    /** "BAD_TEXT if the pad has a fault (then it stays)". */
    private static void textWithAFault() {
        String[] texts = {"", "1", "1,", ",", "1,2;", "1,2;3", "1,2;3,", "1,2;3,4,", "64,0", "0,64", "01,2", "1,2;1,02", "x",
            "1,2;3,4x", EIGHTY.substring(0, 79) + ";", EIGHTY.substring(0, 79) + "x"};
        for (String each : texts) {
            refused(() -> withPointsAndText(each), "putAll of " + each, tiles -> tiles.putAll(), BAD_TEXT);
        }
        refused(QuarterTiles::new, "putAll of a new object", tiles -> tiles.putAll(), BAD_TEXT);
    }

    private static QuarterTiles withPointsAndText(String text) {
        QuarterTiles tiles = withPoints("7,7;8,8");
        text(tiles, text);
        return tiles;
    }

    /** "TOO_MANY if the pad would be longer than 80", behind BAD_VALUE. */
    private static void padTooLong() {
        for (int added = 1; added <= 8; added++) {
            long characters = packed(";1,2;3,4".substring(0, added));
            int length = 81 - added;
            Making making = () -> withPointsAndText(EIGHTY.substring(0, length));
            refused(making, "put of " + added + " to 81", tiles -> tiles.put(characters), TOO_MANY);
            refused(making, "put of wrong ones to 81", tiles -> tiles.put(characters & ~0x7f | 0x20), BAD_VALUE);
        }
        refused(RefusalTest::crowded, "put of one to 80", tiles -> tiles.put('1'), TOO_MANY);
        refused(RefusalTest::crowded, "put of eight to 80", tiles -> tiles.put(0x3131313131313131L), TOO_MANY);
    }

    /** "NOT_POSSIBLE if there is none" (no change that can be undone). */
    private static void undoOfNothing() {
        refused(QuarterTiles::new, "undo of a new object", tiles -> tiles.undo(), NOT_POSSIBLE);
        refused(RefusalTest::allUndone, "undo once more than there are changes", tiles -> tiles.undo(), NOT_POSSIBLE);
    }

    private static QuarterTiles allUndone() {
        QuarterTiles tiles = ordinary();
        for (int i = 0; i < 6; i++) {
            tiles.undo();
        }
        return tiles;
    }

    /** "NOT_POSSIBLE if nothing was saved in it". */
    private static void slotNotSavedIn() {
        refused(QuarterTiles::new, "restore(0) of a new object", tiles -> tiles.restore(0), NOT_POSSIBLE);
        refused(QuarterTiles::new, "restore(1) of a new object", tiles -> tiles.restore(1), NOT_POSSIBLE);
        refused(RefusalTest::ordinary, "restore(1), saved in 0", tiles -> tiles.restore(1), NOT_POSSIBLE);
        refused(RefusalTest::little, "restore(0), saved in 1", tiles -> tiles.restore(0), NOT_POSSIBLE);
    }

    /** "NOT_POSSIBLE if the tile is no leaf": it is split, or not there. */
    private static void leafThatIsNone() {
        for (int split : new int[] {1, 4, 7, 16, 64}) {
            refused(RefusalTest::ordinary, "neighbours(" + split + "), split", tiles -> tiles.neighbours(split), NOT_POSSIBLE);
        }
        for (int away : new int[] {20, 23, 68, 2047, 4096, 8191}) {
            refused(RefusalTest::ordinary, "neighbours(" + away + "), away", tiles -> tiles.neighbours(away), NOT_POSSIBLE);
        }
        refused(QuarterTiles::new, "neighbours(4) of a new object", tiles -> tiles.neighbours(4), NOT_POSSIBLE);
    }

    // ---- what is no error

    /** "NONE (-6) is not an error; it is returned only if no error applies." */
    private static void noneIsNoError() {
        refused(QuarterTiles::new, "nearest of none", tiles -> tiles.nearest(0, 0, 0), NONE);
        refused(QuarterTiles::new, "nearest of none, sum", tiles -> tiles.nearest(63, 63, 1), NONE);
        refused(RefusalTest::crowded, "leastFull(4) with orders", tiles -> tiles.leastFull(4), NONE);
        refused(RefusalTest::ordinary, "fault of none", tiles -> tiles.fault(), NONE);
        refusedAlways("beside(1, 0, 0)", tiles -> tiles.beside(1, 0, 0), NONE);
        refusedAlways("beside(1, 0, 1)", tiles -> tiles.beside(1, 0, 1), NONE);
        refusedAlways("beside(4096, 4, 1)", tiles -> tiles.beside(4096, 4, 1), NONE);
    }

    /** "what there is; nothing changes", "what if; nothing changes". */
    private static void questionsChangeNothing() {
        asked("questions to a new object", QuarterTiles::new);
        asked("questions to a little", RefusalTest::little);
        asked("questions", RefusalTest::ordinary);
        asked("questions with as much as there may be", RefusalTest::crowded);
    }

    private static void asked(String call, Making making) {
        QuarterTiles called = making.made();
        QuarterTiles spared = making.made();
        for (int what = 0; what <= 10; what++) {
            called.count(what);
            called.of(0, what);
            called.tile(4, what);
        }
        for (int what = 0; what <= 3; what++) {
            called.window(0, 0, 40, 40, what);
        }
        for (int what = 0; what <= 1; what++) {
            called.beside(1023, 7, what);
            called.nearest(30, 30, what);
            called.ifPut(3, 2, what);
            called.ifPut(0, 63, what);
        }
        called.leafAt(2, 2);
        called.letter(2047, 0);
        called.neighbours(called.leafAt(9, 9));
        called.leastFull(1);
        called.leastFull(16);
        called.fault();
        Due.holds(call + " change nothing", Sight.of(called).equals(Sight.of(spared)));
    }
}
