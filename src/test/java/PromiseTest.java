/** For each promise of the document what it says: the ordinary, the edges that it names, wrong inputs and their order. */
public final class PromiseTest extends Given {
    /** The tiles that these tests order, and some that they do not. */
    private static final int[] ASKED = {1, 4, 5, 6, 7, 69, 1024, 1030, 1035, 2047};

    private PromiseTest() {
    }

    public static void main(String[] args) {
        aNewObject();
        set();
        point();
        take();
        move();
        split();
        putAll();
        putAllUpToTheFirstError();
        of();
        leafAt();
        tile();
        letter();
        beside();
        neighbours();
        count();
        unevenness();
        window();
        nearest();
        ifPut();
        leastFull();
        put();
        wipe();
        fault();
        undo();
        undoOfEachChange();
        save();
        restore();
        Due.end("PromiseTest");
    }

    // ---- help

    /** All that a call may change, as one text. */
    private static String all(QuarterTiles tiles) {
        StringBuilder all = new StringBuilder();
        for (int what = 0; what <= 10; what++) {
            all.append(tiles.count(what)).append(' ');
        }
        for (int point = 0; point < tiles.count(0); point++) {
            all.append(tiles.of(point, 0)).append(',').append(tiles.of(point, 1)).append(';');
        }
        for (int tile : ASKED) {
            if (tiles.tile(tile, 6) == 1) {
                all.append(" /").append(tile);
            }
        }
        return all.append(" fault ").append(tiles.fault()).toString();
    }

    private static void same(String call, QuarterTiles tiles, String before) {
        Due.holds(call + " changes nothing", all(tiles).equals(before));
    }

    // ---- promise 1

    private static void aNewObject() {
        QuarterTiles tiles = new QuarterTiles();
        int[] counts = {0, 1, 1, 0, 1, 0, 0, 2, 6, 0, 0};
        for (int what = 0; what < counts.length; what++) {
            Due.is("new: count(" + what + ")", tiles.count(what), counts[what]);
        }
        Due.is("new: of(0, 0)", tiles.of(0, 0), NO_SUCH);
        Due.is("new: leafAt(63, 63)", tiles.leafAt(63, 63), 1);
        Due.is("new: fault()", tiles.fault(), 0);
        Due.is("new: undo()", tiles.undo(), NOT_POSSIBLE);
        Due.is("new: restore(0)", tiles.restore(0), NOT_POSSIBLE);
        Due.is("new: restore(1)", tiles.restore(1), NOT_POSSIBLE);
        new QuarterTiles().point(3, 3);
        Due.is("objects share nothing", tiles.count(0), 0);
    }

    // ---- promise 2

    private static void set() {
        QuarterTiles tiles = withPoints("0,0;1,0;0,1");
        Due.is("set: leaves before", tiles.count(1), 19);
        Due.is("set(FULL, 8)", tiles.set(0, 8), 2);
        Due.is("set: leaves then", tiles.count(1), 1);
        Due.is("set(FULL, 1)", tiles.set(0, 1), 8);
        Due.is("set: leaves with 1", tiles.count(1), 19);
        Due.is("set(DEEP, 1)", tiles.set(1, 1), 6);
        Due.is("set: leaves with depth 1", tiles.count(1), 4);
        Due.is("set(DEEP, 5)", tiles.set(1, 5), 1);
        Due.is("set: leaves with depth 5", tiles.count(1), 16);
        Due.is("set(DEEP, 6)", tiles.set(1, 6), 5);
        Due.is("set: changes", tiles.count(10), 6);
        String before = all(tiles);
        int[][] wrong = {{-1, 1}, {2, 1}, {0, 0}, {0, 9}, {1, 0}, {1, 7}, {0, -1}, {1, Integer.MIN_VALUE},
            {Integer.MAX_VALUE, 1}, {2, 100}};
        for (int[] each : wrong) {
            Due.is("set(" + each[0] + ", " + each[1] + ")", tiles.set(each[0], each[1]), BAD_VALUE);
        }
        same("a wrong set", tiles, before);
        QuarterTiles fresh = new QuarterTiles();
        fresh.set(0, 9);
        Due.is("set: an error is no change", fresh.count(10), 0);
        Due.is("set to what it is", fresh.set(0, 2), 2);
        Due.is("set to what it is is a change", fresh.count(10), 1);
    }

    // ---- promise 3

    private static void point() {
        QuarterTiles tiles = new QuarterTiles();
        Due.is("point(0, 0)", tiles.point(0, 0), 1);
        Due.is("point(63, 63)", tiles.point(63, 63), 1);
        Due.is("point(63, 0)", tiles.point(63, 0), 4);
        Due.is("point: its number", tiles.of(2, 0), 63);
        Due.is("point: changes", tiles.count(10), 3);
        String before = all(tiles);
        for (int wrong : NO_COORDINATES) {
            Due.is("point(" + wrong + ", 0)", tiles.point(wrong, 0), NO_SUCH);
            Due.is("point(0, " + wrong + ")", tiles.point(0, wrong), NO_SUCH);
        }
        Due.is("point(63, 63) again", tiles.point(63, 63), NOT_POSSIBLE);
        same("a wrong point", tiles, before);

        QuarterTiles many = withFiftyPoints();
        before = all(many);
        Due.is("point 51", many.point(63, 63), TOO_MANY);
        Due.is("point 51 where one is", many.point(0, 0), NOT_POSSIBLE);
        Due.is("point 51 at no place", many.point(64, 0), NO_SUCH);
        same("point 51", many, before);
        many.take(49);
        Due.holds("point 50 again", many.point(63, 63) > 0);

        QuarterTiles deep = new QuarterTiles();
        deep.set(0, 1);
        deep.point(62, 63);
        Due.is("two at the depth 6", deep.point(63, 63), 19);
        Due.is("two at the depth 6: leaf", deep.leafAt(63, 63), 8191);
        Due.is("two at the depth 6: other leaf", deep.leafAt(62, 63), 8190);
    }

    // ---- promise 4

    private static void take() {
        QuarterTiles tiles = withPoints("0,0;63,0;5,5;63,63");
        Due.is("take: leaves before", tiles.count(1), 4);
        Due.is("take(1)", tiles.take(1), 4);
        Due.is("take: the one behind moves up, x", tiles.of(1, 0), 5);
        Due.is("take: the one behind moves up, y", tiles.of(1, 1), 5);
        Due.is("take: the last one moves up", tiles.of(2, 0), 63);
        Due.is("take: the one ahead stays", tiles.of(0, 0), 0);
        Due.is("take: points", tiles.count(0), 3);
        String before = all(tiles);
        for (int wrong : new int[] {3, -1, Integer.MAX_VALUE, Integer.MIN_VALUE}) {
            Due.is("take(" + wrong + ")", tiles.take(wrong), NO_SUCH);
        }
        same("a wrong take", tiles, before);
        Due.is("take(2), the last", tiles.take(2), 1);
        Due.is("take: changes", tiles.count(10), 3);
        Due.is("take: its tile", tiles.tile(8191, 4), 0);
        Due.is("take(0)", tiles.take(0), 1);
        Due.is("take(0) again", tiles.take(0), 1);
        Due.is("take(0) of none", tiles.take(0), NO_SUCH);
    }

    // ---- promise 5

    private static void move() {
        QuarterTiles tiles = withPoints("0,0;1,1;2,2");
        Due.is("move: leaves before", tiles.count(1), 16);
        Due.is("move(1, 40, 40)", tiles.move(1, 40, 40), 4);
        Due.is("move keeps the number, x", tiles.of(1, 0), 40);
        Due.is("move keeps the number, y", tiles.of(1, 1), 40);
        Due.is("move: the others stay", tiles.of(2, 0), 2);
        Due.is("move: the tile it left", tiles.tile(4, 4), 2);
        Due.is("move: the tile it came to", tiles.tile(7, 4), 1);
        Due.is("move: changes", tiles.count(10), 2);
        Due.is("move to its own place", tiles.move(1, 40, 40), 4);
        Due.is("move to its own place is a change", tiles.count(10), 3);
        String before = all(tiles);
        Due.is("move to another point", tiles.move(1, 0, 0), NOT_POSSIBLE);
        Due.is("move of no point to a point", tiles.move(3, 0, 0), NO_SUCH);
        Due.is("move of no point", tiles.move(-1, 9, 9), NO_SUCH);
        for (int wrong : NO_COORDINATES) {
            Due.is("move to x " + wrong, tiles.move(0, wrong, 0), NO_SUCH);
            Due.is("move to y " + wrong, tiles.move(0, 0, wrong), NO_SUCH);
        }
        same("a wrong move", tiles, before);
    }

    // ---- promise 6

    private static void split() {
        QuarterTiles tiles = new QuarterTiles();
        Due.is("split(4, true), not there", tiles.split(4, true), 1);
        Due.is("split(1, true): both hold", tiles.split(1, true), 7);
        Due.is("split(2047, true), depth 5", tiles.split(2047, true), 7);
        Due.is("split: orders", tiles.count(5), 3);
        Due.is("split: changes", tiles.count(10), 3);
        String before = all(tiles);
        Due.is("split(4, true) again", tiles.split(4, true), NOT_POSSIBLE);
        Due.is("split(5, false), not ordered", tiles.split(5, false), NOT_POSSIBLE);
        Due.is("split(4096, true)", tiles.split(4096, true), NO_SUCH);
        Due.is("split(8191, true)", tiles.split(8191, true), NO_SUCH);
        Due.is("split(4096, false)", tiles.split(4096, false), NO_SUCH);
        for (int wrong : NO_NUMBERS) {
            Due.is("split(" + wrong + ", true)", tiles.split(wrong, true), NO_SUCH);
            Due.is("split(" + wrong + ", false)", tiles.split(wrong, false), NO_SUCH);
        }
        same("a wrong split", tiles, before);
        Due.is("split(1, false): the order for 4 holds on", tiles.split(1, false), 1);
        Due.is("split: still ordered", tiles.tile(4, 6), 1);
        Due.is("split(1, true) again", tiles.split(1, true), 7);
        Due.is("split(4, false)", tiles.split(4, false), 4);

        QuarterTiles many = new QuarterTiles();
        for (int tile = 1024; tile < 1036; tile++) {
            Due.is("split(" + tile + ", true)", many.split(tile, true), 1);
        }
        before = all(many);
        Due.is("split: order 13", many.split(4, true), TOO_MANY);
        Due.is("split: one of the 12 again", many.split(1030, true), NOT_POSSIBLE);
        Due.is("split: 13 at depth 6", many.split(4096, true), NO_SUCH);
        Due.is("split: taking back what is not given", many.split(4, false), NOT_POSSIBLE);
        same("order 13", many, before);
        Due.is("split: one of 12 back", many.split(1030, false), 1);
        Due.is("split: it is back", many.tile(1030, 6), 0);
        Due.is("split: the last one is kept", many.tile(1035, 6), 1);
        Due.is("split: a 12th again", many.split(1, true), 4);

        QuarterTiles crowded = withPoints("0,0;0,63;63,63");
        Due.is("split: split by points, too", crowded.split(1, true), 4);
        Due.is("split: split by points, still", crowded.split(1, false), 4);
        crowded.set(1, 1);
        Due.is("split: not deeper than DEEP", crowded.split(4, true), 4);
        crowded.set(1, 2);
        Due.is("split: DEEP is more now", crowded.count(1), 7);
    }

    // ---- promise 7

    private static void putAll() {
        QuarterTiles tiles = new QuarterTiles();
        Due.is("putAll of nothing", tiles.putAll(), BAD_TEXT);
        text(tiles, "7,8;63,0;0,63;");
        Due.is("putAll of what ends too early", tiles.putAll(), BAD_TEXT);
        Due.is("putAll: the pad stays", tiles.count(9), 14);
        Due.is("putAll: no change", tiles.count(10), 0);
        Due.is("putAll: none put", tiles.count(0), 0);
        text(tiles, "10,9");
        Due.is("putAll", tiles.putAll(), 4);
        int[][] points = {{7, 8}, {63, 0}, {0, 63}, {10, 9}};
        for (int i = 0; i < points.length; i++) {
            Due.is("putAll: x of " + i, tiles.of(i, 0), points[i][0]);
            Due.is("putAll: y of " + i, tiles.of(i, 1), points[i][1]);
        }
        Due.is("putAll empties the pad", tiles.count(9), 0);
        Due.is("putAll is one change", tiles.count(10), 1);
        text(tiles, "x");
        Due.is("putAll of a wrong text", tiles.putAll(), BAD_TEXT);

        QuarterTiles full = withPoints("0,0;1,0;2,0;3,0;4,0;5,0;6,0;7,0;8,0;9,0;0,1;1,1;2,1;3,1;4,1;5,1;6,1;7,1;8,1;9,1");
        Due.is("putAll of 20 in 79 characters", full.count(0), 20);
        Due.is("putAll of 20: the last one", full.of(19, 0), 9);
    }

    private static void putAllUpToTheFirstError() {
        QuarterTiles tiles = withPoints("5,5");
        text(tiles, "6,6;7,7;5,5;8,8");
        Due.is("putAll up to one that is there", tiles.putAll(), 2);
        Due.is("putAll: those ahead are put", tiles.count(0), 3);
        Due.is("putAll: the rest is gone", tiles.count(9), 0);
        text(tiles, "9,9;9,9;10,10");
        Due.is("putAll up to one that was put just now", tiles.putAll(), 1);
        text(tiles, "5,5;20,20");
        Due.is("putAll of none", tiles.putAll(), 0);
        Due.is("putAll of none empties the pad", tiles.count(9), 0);
        Due.is("putAll of none is a change", tiles.count(10), 4);
        QuarterTiles many = withFiftyPoints();
        many.take(0);
        text(many, "50,50;51,51");
        Due.is("putAll up to 50", many.putAll(), 1);
        Due.is("putAll: 50 then", many.count(0), 50);
    }

    // ---- promise 8

    private static void of() {
        QuarterTiles tiles = withPoints("33,2;2,1;1,2;40,50;0,3");
        int[] x = {33, 2, 1, 40, 0};
        int[] y = {2, 1, 2, 50, 3};
        // paths: b.. ; aaaabc.. : (2, 1) is aaaabc, (1, 2) is aaaacb, (0, 3) is aaaacc; d..
        int[] leaf = {5, 1025, 1026, 7, 1026};
        int[] place = {3, 0, 1, 4, 2};
        for (int i = 0; i < x.length; i++) {
            Due.is("of(" + i + ", 0)", tiles.of(i, 0), x[i]);
            Due.is("of(" + i + ", 1)", tiles.of(i, 1), y[i]);
            Due.is("of(" + i + ", 2)", tiles.of(i, 2), leaf[i]);
            Due.is("of(" + i + ", 3)", tiles.of(i, 3), place[i]);
            Due.is("of(" + i + ", 4)", tiles.of(i, 4), BAD_VALUE);
            Due.is("of(" + i + ", -1)", tiles.of(i, -1), BAD_VALUE);
        }
        Due.is("of(5, 0)", tiles.of(5, 0), NO_SUCH);
        Due.is("of(-1, 0)", tiles.of(-1, 0), NO_SUCH);
        Due.is("of(5, 4)", tiles.of(5, 4), NO_SUCH);
        Due.is("of(MIN, MIN)", tiles.of(Integer.MIN_VALUE, Integer.MIN_VALUE), NO_SUCH);
    }

    // ---- promise 9

    private static void leafAt() {
        QuarterTiles tiles = new QuarterTiles();
        tiles.split(1, true);
        tiles.split(6, true);
        int[][] places = {{0, 0, 4}, {31, 31, 4}, {32, 0, 5}, {63, 31, 5}, {0, 32, 24}, {15, 47, 24}, {16, 47, 25},
            {31, 32, 25}, {0, 48, 26}, {31, 63, 27}, {32, 32, 7}, {63, 63, 7}};
        for (int[] each : places) {
            Due.is("leafAt(" + each[0] + ", " + each[1] + ")", tiles.leafAt(each[0], each[1]), each[2]);
        }
        for (int wrong : NO_COORDINATES) {
            Due.is("leafAt(" + wrong + ", 0)", tiles.leafAt(wrong, 0), NO_SUCH);
            Due.is("leafAt(0, " + wrong + ")", tiles.leafAt(0, wrong), NO_SUCH);
        }
    }

    // ---- promise 10

    private static void tile() {
        QuarterTiles tiles = withPoints("50,40;63,63;2,2");
        tiles.split(7, true);
        tiles.split(1024, true);
        int[][] due = {
            // number, x, y, size, depth, points, kind, ordered, leaves
            {1, 0, 0, 64, 0, 3, 2, 0, 7}, {4, 0, 0, 32, 1, 1, 1, 0, 1}, {5, 32, 0, 32, 1, 0, 1, 0, 1},
            {6, 0, 32, 32, 1, 0, 1, 0, 1}, {7, 32, 32, 32, 1, 2, 2, 1, 4}, {28, 32, 32, 16, 2, 0, 1, 0, 1},
            {29, 48, 32, 16, 2, 1, 1, 0, 1}, {31, 48, 48, 16, 2, 1, 1, 0, 1}, {16, 0, 0, 16, 2, 1, 0, 0, 0},
            {1024, 0, 0, 2, 5, 0, 0, 1, 0}, {1027, 2, 2, 2, 5, 1, 0, 0, 0}, {4108, 2, 2, 1, 6, 1, 0, 0, 0},
            {8191, 63, 63, 1, 6, 1, 0, 0, 0}, {4096, 0, 0, 1, 6, 0, 0, 0, 0}, {4097, 1, 0, 1, 6, 0, 0, 0, 0},
            {4098, 0, 1, 1, 6, 0, 0, 0, 0}, {2047, 62, 62, 2, 5, 1, 0, 0, 0}};
        for (int[] each : due) {
            for (int what = 0; what < 8; what++) {
                Due.is("tile(" + each[0] + ", " + what + ")", tiles.tile(each[0], what), each[what + 1]);
            }
            Due.is("tile(" + each[0] + ", 8)", tiles.tile(each[0], 8), BAD_VALUE);
            Due.is("tile(" + each[0] + ", -1)", tiles.tile(each[0], -1), BAD_VALUE);
        }
        for (int wrong : NO_NUMBERS) {
            Due.is("tile(" + wrong + ", 0)", tiles.tile(wrong, 0), NO_SUCH);
            Due.is("tile(" + wrong + ", 8)", tiles.tile(wrong, 8), NO_SUCH);
        }
    }

    // ---- promise 11

    private static void letter() {
        QuarterTiles tiles = new QuarterTiles();
        // dbdcda: 1, 7, 29, 119, 478, 1915, 7660
        int number = 7660;
        int[] letters = {3, 1, 3, 2, 3, 0};
        for (int place = 0; place < letters.length; place++) {
            Due.is("letter(" + number + ", " + place + ")", tiles.letter(number, place), letters[place]);
        }
        Due.is("letter at 6", tiles.letter(number, 6), NO_SUCH);
        Due.is("letter at -1", tiles.letter(number, -1), NO_SUCH);
        Due.is("letter at MAX", tiles.letter(number, Integer.MAX_VALUE), NO_SUCH);
        Due.is("letter(6, 0)", tiles.letter(6, 0), 2);
        Due.is("letter(6, 1)", tiles.letter(6, 1), NO_SUCH);
        Due.is("letter(1, 0)", tiles.letter(1, 0), NO_SUCH);
        for (int wrong : NO_NUMBERS) {
            Due.is("letter(" + wrong + ", 0)", tiles.letter(wrong, 0), NO_SUCH);
        }
    }

    // ---- promise 12

    private static void beside() {
        QuarterTiles tiles = new QuarterTiles();
        tiles.split(1, true);
        tiles.split(4, true);
        tiles.split(19, true);
        // 19 is the tile (16, 16) of the size 16; around it 22 right, 28, 24 + 1 up, 24, 18 left, 16, 17 below, 20
        int[] around = {22, 28, 25, 24, 18, 16, 17, 20};
        int[] thereAround = {5, 7, 6, 6, 18, 16, 17, 5};
        for (int direction = 0; direction < 8; direction++) {
            Due.is("beside(19, " + direction + ", 0)", tiles.beside(19, direction, 0), around[direction]);
            Due.is("beside(19, " + direction + ", 1)", tiles.beside(19, direction, 1), thereAround[direction]);
        }
        int[] corner = {4097, 4099, 4098, NONE, NONE, NONE, NONE, NONE};
        for (int direction = 0; direction < 8; direction++) {
            Due.is("beside(4096, " + direction + ", 0)", tiles.beside(4096, direction, 0), corner[direction]);
            Due.is("beside(4096, " + direction + ", 1)", tiles.beside(4096, direction, 1), direction < 3 ? 16 : NONE);
        }
        Due.is("beside(5, 4, 1), split", tiles.beside(5, 4, 1), 4);
        Due.is("beside(8191, 5, 0)", tiles.beside(8191, 5, 0), 8188);
        Due.is("beside(8191, 1, 0)", tiles.beside(8191, 1, 0), NONE);
        for (int direction = 0; direction < 8; direction++) {
            Due.is("beside(1, " + direction + ", 1)", tiles.beside(1, direction, 1), NONE);
        }
        Due.is("beside(1, 8, 0)", tiles.beside(1, 8, 0), BAD_VALUE);
        Due.is("beside(1, -1, 0)", tiles.beside(1, -1, 0), BAD_VALUE);
        Due.is("beside(1, 0, 2)", tiles.beside(1, 0, 2), BAD_VALUE);
        Due.is("beside(1, 0, -1)", tiles.beside(1, 0, -1), BAD_VALUE);
        Due.is("beside(4, 8, 0)", tiles.beside(4, 8, 0), BAD_VALUE);
        for (int wrong : NO_NUMBERS) {
            Due.is("beside(" + wrong + ", 0, 0)", tiles.beside(wrong, 0, 0), NO_SUCH);
            Due.is("beside(" + wrong + ", 9, 9)", tiles.beside(wrong, 9, 9), NO_SUCH);
        }
    }

    // ---- promise 13

    private static void neighbours() {
        QuarterTiles tiles = new QuarterTiles();
        Due.is("neighbours of the whole map", tiles.neighbours(1), 0);
        tiles.split(1, true);
        Due.is("neighbours of a quarter, corners do not count", tiles.neighbours(4), 2);
        tiles.split(5, true);
        tiles.split(20, true);
        // 5 is right of 4 and below 7; 20 is its lower left quarter
        Due.is("neighbours(4)", tiles.neighbours(4), 4);
        Due.is("neighbours(7)", tiles.neighbours(7), 3);
        Due.is("neighbours(6)", tiles.neighbours(6), 2);
        Due.is("neighbours(22)", tiles.neighbours(22), 5);
        Due.is("neighbours(21)", tiles.neighbours(21), 3);
        Due.is("neighbours(80)", tiles.neighbours(80), 3);
        Due.is("neighbours(83)", tiles.neighbours(83), 4);
        Due.is("neighbours of what is split", tiles.neighbours(5), NOT_POSSIBLE);
        Due.is("neighbours of what is not there", tiles.neighbours(16), NOT_POSSIBLE);
        tiles.split(7, true);
        tiles.split(31, true);
        Due.is("neighbours(30), from the left", tiles.neighbours(30), 4);
        Due.is("neighbours(29), from below", tiles.neighbours(29), 4);
        for (int wrong : NO_NUMBERS) {
            Due.is("neighbours(" + wrong + ")", tiles.neighbours(wrong), NO_SUCH);
        }
        QuarterTiles sides = new QuarterTiles();
        sides.split(1, true);
        sides.split(4, true);
        sides.split(17, true);
        sides.split(18, true);
        Due.is("neighbours(5), seen to the left", sides.neighbours(5), 4);
        Due.is("neighbours(6), seen downwards", sides.neighbours(6), 4);
        Due.is("neighbours(19), seen to the left and downwards", sides.neighbours(19), 6);
        Due.is("neighbours(16), seen to the right and upwards", sides.neighbours(16), 4);
        neighboursTwoStepsDeeper();
    }

    private static void neighboursTwoStepsDeeper() {
        // a leaf, what is beside it, a quarter of that at the leaf's side, and one that is not
        int[][] sides = {{4, 5, 0, 1}, {4, 5, 2, 3}, {4, 6, 0, 2}, {4, 6, 1, 3}, {7, 6, 1, 0}, {7, 6, 3, 2}, {7, 5, 2, 0},
            {7, 5, 3, 1}};
        for (int[] each : sides) {
            QuarterTiles tiles = new QuarterTiles();
            int near = 4 * each[1] + each[2];
            for (int tile : new int[] {1, each[1], near, 4 * near + each[2], 4 * each[1] + each[3]}) {
                tiles.split(tile, true);
            }
            Due.is("neighbours(" + each[0] + ") with " + near + " split twice", tiles.neighbours(each[0]), 5);
        }
    }

    // ---- promise 14

    private static void count() {
        QuarterTiles tiles = withPoints("0,0;1,1;2,2;50,50");
        tiles.split(6, true);
        tiles.split(64 + 5, true);
        tiles.set(0, 1);
        tiles.set(0, 2);
        tiles.set(1, 5);
        tiles.set(1, 6);
        text(tiles, "1,2;3");
        // 1, 4, 16, 64 and 256 are split by points and 6 by order: 1 + 6 * 3 leaves, 3 of them with points
        int[] counts = {4, 19, 25, 5, 16, 2, 1, 2, 6, 5, 6};
        for (int what = 0; what < counts.length; what++) {
            Due.is("count(" + what + ")", tiles.count(what), counts[what]);
        }
        for (int wrong : new int[] {-1, 11, Integer.MAX_VALUE, Integer.MIN_VALUE}) {
            Due.is("count(" + wrong + ")", tiles.count(wrong), BAD_VALUE);
        }
        QuarterTiles lone = withPoints("0,0;0,1;1,0;1,1;10,10");
        lone.set(0, 1);
        // 1, 4, 16, 64, 256 and 1024 are split: 19 leaves, one with each point
        Due.is("count of leaves at the depth 6", lone.count(1), 19);
        Due.is("count of leaves without points", lone.count(4), 14);
        Due.is("count of tiles there", lone.count(2), 25);
        QuarterTiles set = new QuarterTiles();
        set.set(0, 7);
        set.set(1, 3);
        Due.is("count(FULL)", set.count(7), 7);
        Due.is("count(DEEP)", set.count(8), 3);
        Due.is("count of changes", set.count(10), 2);
    }

    private static void unevenness() {
        QuarterTiles tiles = new QuarterTiles();
        tiles.split(1, true);
        Due.is("unevenness of four", tiles.count(6), 0);
        tiles.split(4, true);
        Due.is("unevenness of one step", tiles.count(6), 1);
        tiles.split(19, true);
        Due.is("unevenness of two steps to 5 and 6", tiles.count(6), 2);
        QuarterTiles corner = new QuarterTiles();
        corner.split(1, true);
        corner.split(4, true);
        corner.split(16, true);
        Due.is("unevenness inside a corner", corner.count(6), 1);
        corner.split(64 + 3, true);
        Due.is("unevenness at the corner of tiles", corner.count(6), 2);
        // tiles at the edge of the map, each beside a leaf of the depth 1 on one side only: right, up, left, below
        for (int each : new int[] {17, 18, 20, 24}) {
            QuarterTiles one = new QuarterTiles();
            one.split(1, true);
            one.split(each >> 2, true);
            Due.is("unevenness before " + each + " is split", one.count(6), 1);
            one.split(each, true);
            Due.is("unevenness when " + each + " is split", one.count(6), 2);
        }
        QuarterTiles steep = new QuarterTiles();
        for (int tile : new int[] {1, 5, 20, 80, 320, 1280}) {
            steep.split(tile, true);
        }
        Due.is("unevenness of five steps", steep.count(6), 5);
    }

    // ---- promise 15

    private static void window() {
        QuarterTiles tiles = withPoints("0,0;10,0;0,20;40,40;63,63");
        // 1 and 4 are split
        Due.is("window: leaves before", tiles.count(1), 7);
        int[][] due = {
            // x, y, toX, toY, points, leaves, tiles, the smallest with all
            {0, 0, 63, 63, 5, 7, 9, 1}, {0, 0, 0, 0, 1, 1, 3, 16}, {1, 1, 9, 9, 0, 1, 3, 16},
            {0, 0, 10, 9, 2, 1, 3, 16}, {10, 0, 10, 0, 1, 1, 3, 16}, {15, 15, 16, 16, 0, 4, 6, 4},
            {31, 31, 32, 32, 0, 4, 6, 1}, {32, 32, 63, 63, 2, 1, 2, 7}, {41, 41, 63, 62, 0, 1, 2, 7},
            {32, 31, 32, 31, 0, 1, 2, 5}, {16, 0, 31, 15, 0, 1, 3, 17}, {0, 0, 31, 31, 3, 4, 6, 4},
            {0, 15, 63, 16, 0, 5, 7, 1}, {63, 63, 63, 63, 1, 1, 2, 7}};
        for (int[] each : due) {
            for (int what = 0; what < 4; what++) {
                Due.is("window(" + each[0] + ", " + each[1] + ", " + each[2] + ", " + each[3] + ", " + what + ")",
                    tiles.window(each[0], each[1], each[2], each[3], what), each[what + 4]);
            }
        }
        Due.is("window of one place in x too few", tiles.window(5, 5, 4, 5, 0), BAD_VALUE);
        Due.is("window of one place in y too few", tiles.window(5, 5, 5, 4, 0), BAD_VALUE);
        Due.is("window(.., 4)", tiles.window(0, 0, 1, 1, 4), BAD_VALUE);
        Due.is("window(.., -1)", tiles.window(0, 0, 1, 1, -1), BAD_VALUE);
        for (int wrong : NO_COORDINATES) {
            Due.is("window from x " + wrong, tiles.window(wrong, 5, 9, 9, 9), NO_SUCH);
            Due.is("window from y " + wrong, tiles.window(5, wrong, 9, 9, 0), NO_SUCH);
            Due.is("window to x " + wrong, tiles.window(5, 5, wrong, 9, 0), NO_SUCH);
            Due.is("window to y " + wrong, tiles.window(5, 5, 4, wrong, 0), NO_SUCH);
        }
    }

    // ---- promise 16

    private static void nearest() {
        QuarterTiles tiles = new QuarterTiles();
        Due.is("nearest of none", tiles.nearest(0, 0, 0), NONE);
        Due.is("nearest of none, sum", tiles.nearest(0, 0, 1), NONE);
        Due.is("nearest of none with a wrong what", tiles.nearest(0, 0, 2), BAD_VALUE);
        Due.is("nearest of none at no place", tiles.nearest(64, 0, 2), NO_SUCH);
        text(tiles, "63,63;10,20;20,10;0,0");
        tiles.putAll();
        int[][] due = {{63, 63, 0, 0}, {10, 19, 1, 1}, {15, 15, 1, 50}, {20, 12, 2, 4}, {1, 3, 3, 10}, {0, 63, 1, 1949},
            {63, 0, 2, 1949}};
        for (int[] each : due) {
            Due.is("nearest(" + each[0] + ", " + each[1] + ", 0)", tiles.nearest(each[0], each[1], 0), each[2]);
            Due.is("nearest(" + each[0] + ", " + each[1] + ", 1)", tiles.nearest(each[0], each[1], 1), each[3]);
        }
        Due.is("nearest by squares, not by sides", withPoints("7,0;5,4").nearest(0, 0, 0), 1);
        Due.is("nearest across the map", withPoints("63,63").nearest(0, 0, 1), 7938);
        Due.is("nearest(0, 0, -1)", tiles.nearest(0, 0, -1), BAD_VALUE);
        Due.is("nearest(0, 0, 2)", tiles.nearest(0, 0, 2), BAD_VALUE);
        for (int wrong : NO_COORDINATES) {
            Due.is("nearest(" + wrong + ", 0, 0)", tiles.nearest(wrong, 0, 0), NO_SUCH);
            Due.is("nearest(0, " + wrong + ", 2)", tiles.nearest(0, wrong, 2), NO_SUCH);
        }
    }

    // ---- promise 17

    private static void ifPut() {
        QuarterTiles tiles = withPoints("0,0;3,3");
        String before = all(tiles);
        Due.is("ifPut(63, 63, 0)", tiles.ifPut(63, 63, 0), 4);
        Due.is("ifPut(63, 63, 1)", tiles.ifPut(63, 63, 1), 1);
        Due.is("ifPut(2, 2, 0)", tiles.ifPut(2, 2, 0), 16);
        Due.is("ifPut(2, 2, 1)", tiles.ifPut(2, 2, 1), 5);
        Due.is("ifPut(0, 0, 0)", tiles.ifPut(0, 0, 0), NOT_POSSIBLE);
        Due.is("ifPut(0, 0, 1)", tiles.ifPut(0, 0, 1), NOT_POSSIBLE);
        Due.is("ifPut(0, 0, 2)", tiles.ifPut(0, 0, 2), BAD_VALUE);
        Due.is("ifPut(0, 0, -1)", tiles.ifPut(0, 0, -1), BAD_VALUE);
        for (int wrong : NO_COORDINATES) {
            Due.is("ifPut(" + wrong + ", 0, 0)", tiles.ifPut(wrong, 0, 0), NO_SUCH);
            Due.is("ifPut(0, " + wrong + ", 2)", tiles.ifPut(0, wrong, 2), NO_SUCH);
        }
        same("ifPut", tiles, before);
        Due.is("ifPut: the leaf is as it was", tiles.leafAt(2, 2), 1);
        QuarterTiles many = withFiftyPoints();
        Due.is("ifPut of point 51", many.ifPut(63, 63, 0), TOO_MANY);
        Due.is("ifPut of point 51 where one is", many.ifPut(0, 0, 1), NOT_POSSIBLE);
        Due.is("ifPut of point 51 with a wrong what", many.ifPut(63, 63, 2), BAD_VALUE);
    }

    // ---- promise 18

    private static void leastFull() {
        QuarterTiles tiles = withPoints("0,0;1,0;0,1;40,0;40,40;63,63");
        // leaves: FULL 1 1 + 3 * 7 (1, 4, 16, 64, 256, 1024 and 7), FULL 2 1 + 3 * 6, FULL 3 to 5 4, FULL 6 1
        String before = all(tiles);
        int[][] due = {{4096, 1}, {22, 1}, {21, 2}, {19, 2}, {18, 3}, {4, 3}, {3, 6}, {1, 6}};
        for (int[] each : due) {
            Due.is("leastFull(" + each[0] + ")", tiles.leastFull(each[0]), each[1]);
        }
        for (int wrong : new int[] {0, -1, 4097, Integer.MAX_VALUE, Integer.MIN_VALUE}) {
            Due.is("leastFull(" + wrong + ")", tiles.leastFull(wrong), BAD_VALUE);
        }
        same("leastFull", tiles, before);
        tiles.set(1, 1);
        Due.is("leastFull with DEEP 1", tiles.leastFull(4), 1);
        tiles.split(1, true);
        Due.is("leastFull with an order", tiles.leastFull(3), NONE);
        Due.is("leastFull with an order, at most 4", tiles.leastFull(4), 1);
        QuarterTiles nine = withPoints("0,0;9,0;0,9;40,0;40,40;63,63;0,40;0,50;63,0");
        Due.is("leastFull of 9 points for 1", nine.leastFull(1), NONE);
        nine.take(0);
        Due.is("leastFull of 8 points for 1", nine.leastFull(1), 8);
    }

    // ---- promise 19

    private static void put() {
        QuarterTiles tiles = new QuarterTiles();
        Due.is("put('7')", tiles.put('7'), 1);
        Due.is("put(',')", tiles.put(','), 2);
        Due.is("put(\"12;34,56\")", tiles.put(packed("12;34,56")), 10);
        Due.is("put: read in order", tiles.putAll(), 2);
        Due.is("put: x of the first", tiles.of(0, 0), 7);
        Due.is("put: y of the first", tiles.of(0, 1), 12);
        Due.is("put: x of the second", tiles.of(1, 0), 34);
        Due.is("put: y of the second", tiles.of(1, 1), 56);
        Due.is("put: code 33", tiles.put(33), 1);
        Due.is("put: code 126", tiles.put(126), 2);
        Due.is("put: 8 of the code 126", tiles.put(0x7e7e7e7e7e7e7e7eL), 10);
        String before = all(tiles);
        long[] wrong = {0, 32, 127, 128, 255, -1, 0x3100, 0x310031, 0x3120, 0x2031, 0x7f31, 0x317f, Long.MIN_VALUE,
            Long.MIN_VALUE + 0x31, 0x3100000000000031L, 0x8031313131313131L, 0xff00000000000031L, 0x0100000000003131L,
            0x2031313131313131L};
        for (long each : wrong) {
            Due.is("put(" + each + ")", tiles.put(each), BAD_VALUE);
        }
        same("a wrong put", tiles, before);
        for (int length = 18; length <= 74; length += 8) {
            Due.is("put to " + length, tiles.put(0x3131313131313131L), length);
        }
        Due.is("put to 82", tiles.put(0x3131313131313131L), TOO_MANY);
        Due.is("put to 81", tiles.put(0x31313131313131L), TOO_MANY);
        Due.is("put of a wrong one to 81", tiles.put(0x31313131313120L), BAD_VALUE);
        Due.is("put: not longer then", tiles.count(9), 74);
        Due.is("put to 80", tiles.put(0x313131313131L), 80);
        Due.is("put to 81 by one", tiles.put(0x31), TOO_MANY);
        Due.is("put of none to 80", tiles.put(0), BAD_VALUE);
        Due.is("put is no change", tiles.count(10), 1);
    }

    // ---- promise 20

    private static void wipe() {
        QuarterTiles tiles = new QuarterTiles();
        Due.is("wipe of nothing", tiles.wipe(), 0);
        text(tiles, "1,2;3,4");
        Due.is("wipe", tiles.wipe(), 7);
        Due.is("wipe: the length then", tiles.count(9), 0);
        Due.is("wipe: the fault then", tiles.fault(), 0);
        Due.is("wipe is no change", tiles.count(10), 0);
        text(tiles, "5,6");
        Due.is("wipe: nothing of it comes back", tiles.putAll(), 1);
        Due.is("wipe: x", tiles.of(0, 0), 5);
    }

    // ---- promise 21

    private static void fault() {
        Object[][] due = {{"", 0}, {"0,0", NONE}, {"63,63", NONE}, {"9,9;10,59;60,0", NONE}, {"1", 1}, {"1,", 2},
            {"1;", 1}, {",", 0}, {";", 0}, {"1,2,", 3}, {"1,2;", 4}, {"1,2;;", 4}, {"1,2;3", 5}, {"1,2;3;", 5}, {"1,,", 2},
            {"00", 1}, {"01", 1}, {"1,00", 3}, {"64", 1}, {"63,64", 4}, {"69", 1}, {"70", 1}, {"7,70", 3}, {"99", 1},
            {"100", 2}, {"630", 2}, {"1,100", 4}, {"x", 0}, {"1x", 1}, {"1,x", 2}, {"1,2x", 3}, {"-1,2", 0}, {"+1,2", 0},
            {"1/2", 1}, {"1:2", 1}, {"1,2:", 3}, {"0,0;0,0", NONE}, {"!", 0}, {"~", 0}, {"1.5,2", 1}, {"60,61;62,63;64,0", 13}};
        for (Object[] each : due) {
            QuarterTiles tiles = new QuarterTiles();
            text(tiles, (String) each[0]);
            Due.is("fault of " + each[0], tiles.fault(), (Integer) each[1]);
            Due.is("putAll of " + each[0], tiles.putAll() == BAD_TEXT ? 1 : 0, (Integer) each[1] == NONE ? 0 : 1);
        }
    }

    // ---- promise 22

    private static void undo() {
        QuarterTiles tiles = new QuarterTiles();
        Due.is("undo of nothing", tiles.undo(), NOT_POSSIBLE);
        for (int i = 0; i < 8; i++) {
            tiles.point(i, 0);
        }
        Due.is("undo: 6 states are kept", tiles.count(10), 6);
        for (int left = 5; left >= 0; left--) {
            Due.is("undo()", tiles.undo(), left);
            Due.is("undo: points then", tiles.count(0), left + 2);
        }
        Due.is("undo once more", tiles.undo(), NOT_POSSIBLE);
        Due.is("undo: the older changes stay", tiles.count(0), 2);
        tiles.point(9, 9);
        Due.is("undo: a change after undo", tiles.count(10), 1);
        Due.is("undo of it", tiles.undo(), 0);
        text(tiles, "3,3;4,4;5,5");
        tiles.putAll();
        text(tiles, "7,");
        tiles.save(1);
        Due.is("undo of a text, whole", tiles.undo(), 0);
        Due.is("undo of a text: points", tiles.count(0), 2);
        Due.is("undo leaves the pad as it is", tiles.count(9), 2);
        Due.is("undo leaves the slots as they are", tiles.restore(1), 5);
    }

    private static void undoOfEachChange() {
        QuarterTiles tiles = withPoints("1,1;2,2;3,3;40,40");
        tiles.save(0);
        String[] before = new String[6];
        before[0] = all(tiles);
        tiles.set(0, 1);
        before[1] = all(tiles);
        tiles.set(1, 3);
        before[2] = all(tiles);
        tiles.split(7, true);
        before[3] = all(tiles);
        tiles.take(1);
        before[4] = all(tiles);
        tiles.move(0, 50, 50);
        before[5] = all(tiles);
        tiles.restore(0);
        for (int i = 5; i >= 0; i--) {
            Due.is("undo back to " + i, tiles.undo(), i);
            // how many changes can be undone is less, as the oldest one was dropped
            Due.holds("undo brings all back to " + i, sameButHistory(all(tiles), before[i]));
        }
        tiles.split(7, true);
        tiles.split(7, false);
        tiles.undo();
        Due.is("undo of an order taken back", tiles.tile(7, 6), 1);
        tiles.undo();
        Due.is("undo of an order", tiles.tile(7, 6), 0);
        String all = all(tiles);
        tiles.point(100, 0);
        tiles.take(9);
        tiles.move(9, 0, 0);
        tiles.split(7, false);
        tiles.restore(1);
        tiles.putAll();
        same("what returns an error", tiles, all);
    }

    private static boolean sameButHistory(String one, String other) {
        String[] ones = one.split(" ");
        String[] others = other.split(" ");
        ones[10] = others[10];
        return java.util.Arrays.equals(ones, others);
    }

    // ---- promise 23

    private static void save() {
        QuarterTiles tiles = withPoints("1,1;2,2");
        Due.is("save(0)", tiles.save(0), 2);
        tiles.point(3, 3);
        Due.is("save(1)", tiles.save(1), 3);
        tiles.take(0);
        tiles.take(0);
        Due.is("save(0) again", tiles.save(0), 1);
        Due.is("save is no change", tiles.count(10), 4);
        Due.is("save overwrites", tiles.restore(0), 1);
        Due.is("save: what was saved last", tiles.of(0, 0), 3);
        Due.is("save: the other slot keeps its own", tiles.restore(1), 3);
        for (int wrong : new int[] {-1, 2, Integer.MAX_VALUE, Integer.MIN_VALUE}) {
            Due.is("save(" + wrong + ")", tiles.save(wrong), BAD_VALUE);
        }
    }

    // ---- promise 24

    private static void restore() {
        QuarterTiles tiles = withPoints("1,1;2,2;33,33");
        tiles.set(0, 1);
        tiles.set(1, 4);
        tiles.split(5, true);
        tiles.save(1);
        String saved = all(tiles);
        tiles.set(0, 8);
        tiles.set(1, 1);
        tiles.split(5, false);
        tiles.split(6, true);
        tiles.take(0);
        tiles.move(0, 9, 9);
        text(tiles, "4,4");
        Due.is("restore(0), nothing saved", tiles.restore(0), NOT_POSSIBLE);
        Due.is("restore(2)", tiles.restore(2), BAD_VALUE);
        Due.is("restore(-1)", tiles.restore(-1), BAD_VALUE);
        Due.is("restore(1)", tiles.restore(1), 3);
        Due.is("restore keeps the pad", tiles.wipe(), 3);
        Due.is("restore: changes", tiles.count(10), 6);
        tiles.undo();
        Due.is("restore can be undone", tiles.of(0, 0), 9);
        Due.is("restore can be undone: FULL", tiles.count(7), 8);
        tiles.restore(1);
        Due.holds("restore brings all back", sameButHistory(all(tiles), saved));
        tiles.take(0);
        Due.is("restore: the slot keeps it", tiles.restore(1), 3);
        Due.is("restore of what is there is a change", tiles.restore(1), 3);
    }
}
