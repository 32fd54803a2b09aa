/** What the tests share: the codes, arguments that are wrong, and objects that few calls make. */
abstract class Given {
    static final int NO_SUCH = -1, BAD_VALUE = -2, BAD_TEXT = -3, TOO_MANY = -4, NOT_POSSIBLE = -5, NONE = -6;
    static final int FULL = 0, DEEP = 1;
    static final int LEAST = Integer.MIN_VALUE, GREATEST = Integer.MAX_VALUE;
    static final int CALLS_OF_AN_OBJECT = 512;
    static final int[] NO_COORDINATES = {-1, 64, GREATEST, LEAST};

    /** Below and above the numbers of each depth; far from all numbers; and what looks like one in the lower bits. */
    static final int[] NO_NUMBERS = {0, -1, -4, 2, 3, 8, 15, 32, 63, 128, 255, 512, 1023, 2048, 4095, 8192, 16383, 16384,
        1 << 30, GREATEST, LEAST, LEAST + 1, LEAST + 4096};

    /** The least and the greatest number of each depth. */
    static final int[][] NUMBERS_OF_DEPTH = {{1, 1}, {4, 7}, {16, 31}, {64, 127}, {256, 511}, {1024, 2047}, {4096, 8191}};

    /** As long as a pad may be, with 20 points; the first is (10, 5), the last is (9, 6). */
    static final String EIGHTY = "10,5;0,5;1,5;2,5;3,5;4,5;5,5;6,5;7,5;8,5;9,5;0,6;1,6;2,6;3,6;4,6;5,6;6,6;7,6;9,6";

    /** A call that a test makes on more than one object. */
    interface Call {
        int on(QuarterTiles tiles);
    }

    /** Up to eight characters, as put() takes them. */
    static long packed(String text) {
        long characters = 0;
        for (char each : text.toCharArray()) {
            characters = characters << 8 | each;
        }
        return characters;
    }

    static void text(QuarterTiles tiles, String text) {
        for (int from = 0; from < text.length(); from += 8) {
            tiles.put(packed(text.substring(from, Math.min(from + 8, text.length()))));
        }
    }

    static QuarterTiles withText(String text) {
        QuarterTiles tiles = new QuarterTiles();
        text(tiles, text);
        return tiles;
    }

    static QuarterTiles withPoints(String text) {
        QuarterTiles tiles = withText(text);
        tiles.putAll();
        return tiles;
    }

    /** Points (0, 0) to (9, 4), row by row: as many as there may be. */
    static QuarterTiles withFiftyPoints() {
        QuarterTiles tiles = new QuarterTiles();
        for (int i = 0; i < 50; i++) {
            Due.holds("point " + i + " is put", tiles.point(i % 10, i / 10) > 0);
        }
        return tiles;
    }

    static QuarterTiles withOrders(int... numbers) {
        QuarterTiles tiles = new QuarterTiles();
        for (int number : numbers) {
            Due.holds("tile " + number + " is ordered", tiles.split(number, true) > 0);
        }
        return tiles;
    }

    static void isAt(String what, QuarterTiles tiles, int point, int x, int y) {
        Due.is(what + ", x", tiles.of(point, 0), x);
        Due.is(what + ", y", tiles.of(point, 1), y);
    }
}
