/** The boundary cases of promises 8 to 18, the questions, sentence by sentence. Refused calls are in RefusalTest. */
public final class QuestionsEdgeTest extends Given {
    private QuestionsEdgeTest() {
    }

    public static void main(String[] args) {
        ofFirstAndLast();
        orderOfPaths();
        orderOfFiftyPoints();
        leafAtSides();
        leafAtDeepest();
        tileOfLeastAndGreatestNumber();
        tilePoints();
        pointsOfTilesNotThere();
        tileKinds();
        tileLeaves();
        letterFirstAndLast();
        besideNotSmaller();
        besideLeastPlace();
        neighboursOfEdges();
        neighboursOfMany();
        neighboursAcrossEachSide();
        countLeast();
        countGreatest();
        leavesWithoutPoints();
        countUpToDeep();
        ordersOfTilesNotThereCountForNothing();
        unevennessOfLeaves();
        unevennessAcrossEachSide();
        unevennessAcrossCorners();
        windowOfOnePlace();
        windowOfAll();
        windowAtSides();
        nearestOfNone();
        nearestLowest();
        nearestFarthest();
        ifPutAsPoint();
        ifPutAtFull();
        ifPutDeepest();
        ifPutFifty();
        leastFullOfAllLeaves();
        leastFullOfPoints();
        leastFullOfNone();
        Due.end("QuestionsEdgeTest");
    }

    // ---- promise 8

    /** "0 its x, 1 its y, 2 the number of its leaf, 3 its place in the order of paths", of the first and last point. */
    private static void ofFirstAndLast() {
        QuarterTiles tiles = withFiftyPoints();
        tiles.move(49, 63, 63);
        int[] first = {0, 0, 4096, 0};
        int[] last = {63, 63, 7, 49};
        for (int what = 0; what < 4; what++) {
            Due.is("of(0, " + what + ")", tiles.of(0, what), first[what]);
            Due.is("of(49, " + what + ")", tiles.of(49, what), last[what]);
            Due.is("of(50, " + what + ")", tiles.of(50, what), NO_SUCH);
            Due.is("of(-1, " + what + ")", tiles.of(-1, what), NO_SUCH);
        }
        Due.is("of(0, 4)", tiles.of(0, 4), BAD_VALUE);
        Due.is("of(0, -1)", tiles.of(0, -1), BAD_VALUE);
        Due.is("of(50, 4)", tiles.of(50, 4), NO_SUCH);
        Due.is("of(49, 2) of one in the whole map", withPoints("63,63").of(0, 2), 1);
    }

    /** "points of lower places by paths up to the depth 6 come first (.. letter by letter)", whatever tiles are there. */
    private static void orderOfPaths() {
        // first of each row is ahead of the second
        int[][] rows = {{0, 0, 1, 0}, {1, 0, 0, 1}, {0, 1, 1, 1}, {63, 0, 0, 32}, {31, 31, 32, 0}, {63, 31, 0, 32},
            {31, 63, 32, 32}, {62, 62, 63, 62}, {63, 62, 62, 63}, {62, 63, 63, 63}, {1, 1, 2, 0}, {15, 15, 16, 0},
            {3, 1, 0, 2}, {0, 0, 63, 63}, {7, 8, 8, 0x8}};
        for (int[] each : rows) {
            for (int deep = 1; deep <= 6; deep += 5) {
                QuarterTiles tiles = new QuarterTiles();
                tiles.set(DEEP, deep);
                tiles.point(each[2], each[3]);
                Due.is("alone it is the first", tiles.of(0, 3), 0);
                tiles.point(each[0], each[1]);
                String of = each[0] + " " + each[1] + " ahead of " + each[2] + " " + each[3];
                Due.is(of, tiles.of(1, 3), 0);
                Due.is(of + ", the other", tiles.of(0, 3), 1);
            }
        }
    }

    /** "3 its place in the order of paths": of as many points as there may be. */
    private static void orderOfFiftyPoints() {
        QuarterTiles tiles = new QuarterTiles();
        // along the path: places 2 * i from the last one on, so that the order is that of the numbers turned about
        for (int i = 49; i >= 0; i--) {
            tiles.point(i & 1 | i >> 1 & 2 | i >> 2 & 4, i >> 1 & 1 | i >> 2 & 2 | i >> 3 & 4);
        }
        for (int point = 0; point < 50; point++) {
            Due.is("order of " + point + " in 50", tiles.of(point, 3), 49 - point);
        }
    }

    // ---- promise 9

    private static void leavesAre(QuarterTiles tiles, int[][] due) {
        for (int[] each : due) {
            Due.is("leafAt(" + each[0] + ", " + each[1] + ")", tiles.leafAt(each[0], each[1]), each[2]);
        }
    }

    /** "Returns the leaf of a place": on both sides of what parts two leaves. */
    private static void leafAtSides() {
        QuarterTiles tiles = withOrders(1, 7, 28);
        int[][] due = {{31, 31, 4}, {32, 31, 5}, {31, 32, 6}, {32, 32, 112}, {39, 39, 112}, {40, 39, 113}, {39, 40, 114},
            {40, 40, 115}, {47, 47, 115}, {48, 47, 29}, {47, 48, 30}, {48, 48, 31}, {63, 63, 31}, {0, 0, 4}, {63, 0, 5},
            {0, 63, 6}};
        leavesAre(tiles, due);
        Due.is("leafAt of the whole map", new QuarterTiles().leafAt(63, 63), 1);
    }

    /** "Returns the leaf of a place": of one place, and the leaves around it. */
    private static void leafAtDeepest() {
        QuarterTiles tiles = withOrders(1, 4, 16, 64, 256, 1024, 7, 31, 127, 511, 2047);
        int[][] due = {{0, 0, 4096}, {1, 0, 4097}, {0, 1, 4098}, {1, 1, 4099}, {2, 0, 1025}, {0, 2, 1026}, {62, 62, 8188},
            {63, 62, 8189}, {62, 63, 8190}, {63, 63, 8191}, {61, 63, 2046}, {63, 61, 2045}};
        leavesAre(tiles, due);
    }

    // ---- promise 10

    /** "0 its least x, 1 its least y, 2 its size, 3 its depth ..": of the least and the greatest number of each depth. */
    private static void tileOfLeastAndGreatestNumber() {
        for (int depth = 0; depth <= 6; depth++) {
            int size = 64 >> depth;
            int[] least = {0, 0, size, depth, 0, depth == 0 ? 1 : 0, 0, depth == 0 ? 1 : 0};
            int[] greatest = {64 - size, 64 - size, size, depth, 0, depth == 0 ? 1 : 0, 0, depth == 0 ? 1 : 0};
            for (int what = 0; what < 8; what++) {
                int from = NUMBERS_OF_DEPTH[depth][0];
                int to = NUMBERS_OF_DEPTH[depth][1];
                Due.is("tile(" + from + ", " + what + ")", new QuarterTiles().tile(from, what), least[what]);
                Due.is("tile(" + to + ", " + what + ")", new QuarterTiles().tile(to, what), greatest[what]);
            }
        }
        Due.is("tile(0, 0)", new QuarterTiles().tile(0, 0), NO_SUCH);
        Due.is("tile(8192, 0)", new QuarterTiles().tile(8192, 0), NO_SUCH);
        Due.is("tile(1, 8)", new QuarterTiles().tile(1, 8), BAD_VALUE);
        Due.is("tile(1, -1)", new QuarterTiles().tile(1, -1), BAD_VALUE);
    }

    /** "4 its points, how many", none and all; points at its last place are in it, those beside it are not. */
    private static void tilePoints() {
        QuarterTiles tiles = withPoints("32,32;63,63;31,32;32,31;64,0");
        Due.is("a text with a fault puts none", tiles.tile(1, 4), 0);
        tiles.wipe();
        text(tiles, "32,32;63,63;31,32;32,31");
        tiles.putAll();
        Due.is("points in d", tiles.tile(7, 4), 2);
        Due.is("points in c", tiles.tile(6, 4), 1);
        Due.is("points in b", tiles.tile(5, 4), 1);
        Due.is("points in a", tiles.tile(4, 4), 0);
        Due.is("points at the first place of d", tiles.tile(7168, 4), 1);
        Due.is("points at the last place of d", tiles.tile(8191, 4), 1);
        tiles.take(0);
        tiles.move(0, 32, 32);
        Due.is("points at the first place then", tiles.tile(7168, 4), 1);
        Due.is("points at the last place then", tiles.tile(8191, 4), 0);
        Due.is("50 points", withFiftyPoints().tile(1, 4), 50);
    }

    /** "A tile is a square of places"; "4 its points, how many": also of tiles of each depth that are not there. */
    private static void pointsOfTilesNotThere() {
        QuarterTiles tiles = withPoints("63,63;0,0");
        Due.is("the whole map is a leaf", tiles.tile(1, 5), 1);
        for (int depth = 1; depth <= 6; depth++) {
            int first = NUMBERS_OF_DEPTH[depth][0];
            int last = NUMBERS_OF_DEPTH[depth][1];
            Due.is("tile " + last + " is not there", tiles.tile(last, 5), 0);
            Due.is("points in tile " + last, tiles.tile(last, 4), 1);
            Due.is("points in tile " + (last - 1), tiles.tile(last - 1, 4), 0);
            Due.is("points in tile " + first, tiles.tile(first, 4), 1);
            Due.is("points in tile " + (first + 1), tiles.tile(first + 1, 4), 0);
        }
        tiles.take(0);
        Due.is("points in tile 7 then", tiles.tile(7, 4), 0);
        tiles.undo();
        Due.is("points in tile 7 again", tiles.tile(7, 4), 1);
    }

    /** "5 what it is: 0 not there, 1 a leaf, 2 split; 6 whether it is ordered to be split (1 or 0)". */
    private static void tileKinds() {
        QuarterTiles tiles = withOrders(7, 28, 2047);
        Due.is("an ordered tile that is not there", tiles.tile(7, 5), 0);
        Due.is("it is ordered", tiles.tile(7, 6), 1);
        tiles.split(1, true);
        Due.is("an ordered tile that is there", tiles.tile(7, 5), 2);
        Due.is("its quarter, split", tiles.tile(28, 5), 2);
        Due.is("its quarter, a leaf", tiles.tile(29, 5), 1);
        Due.is("a quarter of this leaf", tiles.tile(116, 5), 0);
        Due.is("a quarter of this leaf is not ordered", tiles.tile(116, 6), 0);
        Due.is("a deep one that is not there", tiles.tile(2047, 5), 0);
        Due.is("a deep one is ordered", tiles.tile(2047, 6), 1);
        tiles.set(DEEP, 1);
        Due.is("at the depth DEEP an ordered tile is a leaf", tiles.tile(7, 5), 1);
        Due.is("behind it there is none", tiles.tile(28, 5), 0);
        QuarterTiles crowd = withPoints("0,0;1,0;0,1");
        Due.is("a place that is a leaf", crowd.tile(4096, 5), 1);
        Due.is("its tile is split", crowd.tile(1024, 5), 2);
        Due.is("a tile split by points is not ordered", crowd.tile(1024, 6), 0);
    }

    /** "7 the leaves in it (1 for a leaf, 0 if it is not there)". */
    private static void tileLeaves() {
        QuarterTiles tiles = withOrders(1, 4, 16, 64, 256, 1024);
        int[][] due = {{1, 19}, {4, 16}, {16, 13}, {64, 10}, {256, 7}, {1024, 4}, {4096, 1}, {4099, 1}, {1025, 1}, {7, 1},
            {28, 0}, {8191, 0}, {4100, 0}};
        for (int[] each : due) {
            Due.is("tile(" + each[0] + ", 7)", tiles.tile(each[0], 7), each[1]);
        }
        tiles.split(7168 >> 4, true);
        Due.is("leaves in an ordered tile that is not there", tiles.tile(7168 >> 4, 7), 0);
        Due.is("leaves in the whole map, a leaf", new QuarterTiles().tile(1, 7), 1);
    }

    // ---- promise 11

    /** "NO_SUCH if there is no such number, or the path has not so many letters". */
    private static void letterFirstAndLast() {
        for (int depth = 0; depth <= 6; depth++) {
            for (int end = 0; end < 2; end++) {
                int tile = NUMBERS_OF_DEPTH[depth][end];
                for (int place = 0; place < depth; place++) {
                    Due.is("letter(" + tile + ", " + place + ")", new QuarterTiles().letter(tile, place), 3 * end);
                }
                for (int wrong : new int[] {-1, depth, depth + 1, 6, 7, GREATEST, LEAST}) {
                    Due.is("letter(" + tile + ", " + wrong + ")", new QuarterTiles().letter(tile, wrong), NO_SUCH);
                }
            }
        }
        // badcab: 1, 5, 20, 83, 334, 1336, 5345
        int[] letters = {1, 0, 3, 2, 0, 1};
        for (int place = 0; place < 6; place++) {
            Due.is("letter(5345, " + place + ")", new QuarterTiles().letter(5345, place), letters[place]);
        }
    }

    // ---- promise 12

    /** "the number of the smallest tile that is there, .. and is not smaller than that one". */
    private static void besideNotSmaller() {
        QuarterTiles tiles = withOrders(1, 5, 20, 80);
        Due.is("beside is a tile that is split", tiles.beside(4, 0, 1), 5);
        Due.is("beside is a leaf", tiles.beside(4, 2, 1), 6);
        Due.is("beside a tile not there is one split", tiles.beside(17, 0, 1), 20);
        Due.is("beside a deeper one not there is one split", tiles.beside(17 * 4 + 1, 0, 1), 80);
        Due.is("beside a place is the leaf", tiles.beside((17 * 4 + 1) * 16 + 5, 0, 1), 320);
        Due.is("beside a place is the larger leaf", tiles.beside(4096, 0, 1), 4);
        Due.is("beside is the whole map", new QuarterTiles().beside(8190, 0, 1), 1);
        Due.is("beside a tile not there, what 0", new QuarterTiles().beside(8190, 0, 0), 8191);
        Due.is("beside is none", new QuarterTiles().beside(8191, 0, 1), NONE);
        tiles.set(DEEP, 1);
        Due.is("beside with DEEP 1", tiles.beside(17, 0, 1), 5);
    }

    /** "has the least place (x, y) of the tile that 0 tells": not any other place of it. */
    private static void besideLeastPlace() {
        QuarterTiles tiles = withOrders(1, 7);
        Due.is("right", tiles.beside(26, 0, 1), 6);
        Due.is("right, over the side", tiles.beside(27, 0, 1), 30);
        Due.is("right and down, over the corner of four", tiles.beside(25, 7, 1), 5);
        Due.is("right and up", tiles.beside(25, 1, 1), 30);
        Due.is("up", tiles.beside(22, 2, 1), 28);
        Due.is("left and up", tiles.beside(22, 3, 1), 6);
        Due.is("left", tiles.beside(28, 4, 1), 6);
        Due.is("left and down, a leaf larger than it", tiles.beside(28, 5, 1), 4);
        Due.is("down", tiles.beside(28, 6, 1), 5);
        Due.is("left, to a leaf as large", tiles.beside(29, 4, 1), 28);
        Due.is("beside(4, 1, 1)", tiles.beside(4, 1, 1), 7);
        Due.is("beside(4, 1, 0)", tiles.beside(4, 1, 0), 7);
    }

    // ---- promise 13

    /** "Returns how many leaves are neighbours of a leaf": at the edges and corners there are none beyond the map. */
    private static void neighboursOfEdges() {
        Due.is("the whole map", new QuarterTiles().neighbours(1), 0);
        QuarterTiles tiles = withOrders(1, 4, 5, 6, 7);
        // 16 leaves of the size 16, row by row from y = 0 on
        int[] rows = {16, 17, 20, 21, 18, 19, 22, 23, 24, 25, 28, 29, 26, 27, 30, 31};
        for (int i = 0; i < rows.length; i++) {
            int beyond = (i % 4 == 0 || i % 4 == 3 ? 1 : 0) + (i < 4 || i >= 12 ? 1 : 0);
            Due.is("neighbours(" + rows[i] + ")", tiles.neighbours(rows[i]), 4 - beyond);
        }
        Due.is("neighbours(4), split", tiles.neighbours(4), NOT_POSSIBLE);
        Due.is("neighbours(64), not there", tiles.neighbours(64), NOT_POSSIBLE);
        Due.is("neighbours(0)", tiles.neighbours(0), NO_SUCH);
        Due.is("neighbours(8192)", tiles.neighbours(8192), NO_SUCH);
    }

    /** "Returns how many leaves are neighbours of a leaf": each along a side counts once, however small it is. */
    private static void neighboursOfMany() {
        QuarterTiles tiles = withPoints("32,0;32,2;32,4;32,6;32,8;32,10;32,12;32,14;32,16;32,18;32,20;32,22");
        tiles.set(FULL, 1);
        // quarters b of the map: 12 points two places apart, the first eight of them in leaves of the size 2
        Due.is("the leaf at 32 0", tiles.tile(tiles.leafAt(32, 0), 2), 2);
        Due.is("the leaf at 32 22", tiles.tile(tiles.leafAt(32, 22), 2), 2);
        Due.is("the leaf at 32 24", tiles.tile(tiles.leafAt(32, 24), 2), 8);
        Due.is("neighbours of a, twelve small ones and one of 8 and c", tiles.neighbours(4), 14);
        Due.is("neighbours of a small one at the edge of the map", tiles.neighbours(tiles.leafAt(32, 0)), 3);
        Due.is("neighbours of a small one", tiles.neighbours(tiles.leafAt(32, 2)), 4);
        QuarterTiles all = withOrders(1, 5, 6, 20, 22, 24, 25, 80, 88, 96, 97, 100);
        Due.is("neighbours of a, split around with 12 orders", all.neighbours(4), 13);
    }

    /** "if a place of the one, and one of the other, differ by 1": a quarter at the side counts, another one does not. */
    private static void neighboursAcrossEachSide() {
        // a leaf, the tile beside it, the two quarters of this one that are at the side of the leaf
        int[][] sides = {{4, 5, 0, 2}, {4, 6, 0, 1}, {7, 6, 1, 3}, {7, 5, 2, 3}};
        for (int[] each : sides) {
            for (int near = 2; near <= 3; near++) {
                QuarterTiles tiles = withOrders(1, each[1]);
                int due = 3;
                Due.is("neighbours(" + each[0] + ") with " + each[1] + " split", tiles.neighbours(each[0]), due);
                for (int quarter = 0; quarter < 4; quarter++) {
                    tiles.split(4 * each[1] + quarter, true);
                    due += quarter == each[2] || quarter == each[3] ? 1 : 0;
                    Due.is("neighbours(" + each[0] + ") with its quarter " + quarter, tiles.neighbours(each[0]), due);
                }
                for (int quarter = 0; quarter < 4; quarter++) {
                    tiles.split(16 * each[1] + 4 * each[near] + quarter, true);
                    due += quarter == each[2] || quarter == each[3] ? 1 : 0;
                    Due.is("neighbours(" + each[0] + ") with a smaller one " + quarter, tiles.neighbours(each[0]), due);
                }
            }
        }
    }

    // ---- promise 14

    /** "Returns a number": the least that each can be. "BAD_VALUE if what is out of range." */
    private static void countLeast() {
        int[] least = {0, 1, 1, 0, 1, 0, 0, 1, 1, 0, 2};
        QuarterTiles tiles = new QuarterTiles();
        tiles.set(FULL, 1);
        tiles.set(DEEP, 1);
        for (int what = 0; what <= 10; what++) {
            Due.is("count(" + what + "), the least", tiles.count(what), least[what]);
        }
        tiles.undo();
        tiles.undo();
        Due.is("count(10) of a history undone", tiles.count(10), 0);
        Due.is("count(-1)", tiles.count(-1), BAD_VALUE);
        Due.is("count(11)", tiles.count(11), BAD_VALUE);
        QuarterTiles one = withPoints("63,63");
        Due.is("count(4) of one leaf with a point", one.count(4), 0);
        Due.is("count(3) of one leaf", one.count(3), 0);
        Due.is("count(6) of one leaf", one.count(6), 0);
    }

    /** "Returns a number": the greatest that it can be, where the document tells one. */
    private static void countGreatest() {
        QuarterTiles tiles = withFiftyPoints();
        tiles.set(FULL, 8);
        for (int order : new int[] {7, 28, 29, 30, 31, 112, 113, 114, 115, 116, 117, 118}) {
            tiles.split(order, true);
        }
        text(tiles, EIGHTY);
        // split by points 1, 4, 16, 64, 65, 256, 257; by order 7, four of depth 2, seven of depth 3: beside them is 6
        int[] greatest = {50, 58, 77, 5, -1, 12, 3, 8, 6, 80, 6};
        for (int what = 0; what <= 10; what++) {
            if (what != 4) {
                Due.is("count(" + what + "), the greatest", tiles.count(what), greatest[what]);
            }
        }
        tiles.set(FULL, 1);
        Due.is("count(3), the greatest", tiles.count(3), 6);
    }

    /** "4 leaves without points": all of them, some, none. */
    private static void leavesWithoutPoints() {
        QuarterTiles tiles = withOrders(1, 7, 31);
        Due.is("all ten are without points", tiles.count(4), 10);
        int[][] places = {{0, 0}, {63, 0}, {0, 63}, {47, 47}, {63, 47}, {47, 63}, {55, 55}, {63, 55}, {55, 63}, {63, 63}};
        for (int i = 0; i < places.length; i++) {
            tiles.point(places[i][0], places[i][1]);
            Due.is("leaves without points, when " + (i + 1) + " have one", tiles.count(4), 9 - i);
        }
        tiles.point(1, 1);
        Due.is("leaves without points, when one has two", tiles.count(4), 0);
        Due.is("leaves", tiles.count(1), 10);
        tiles.take(10);
        tiles.take(9);
        Due.is("leaves without points, when one has none again", tiles.count(4), 1);
        Due.is("leaves without points at the depth 6", withPoints("63,63;62,63;63,62").count(4), 16);
        // of 61 leaves 40 have one point each, those of y = 4 are in five by two
        Due.is("leaves without points of 50", withFiftyPoints().count(4), 16);
    }

    /** "if its depth is less than DEEP": tiles at this depth are leaves, also with too many points and with orders. */
    private static void countUpToDeep() {
        QuarterTiles tiles = withPoints("0,0;1,0");
        tiles.set(FULL, 1);
        for (int order : new int[] {1, 7, 31, 127, 511, 2047}) {
            tiles.split(order, true);
        }
        for (int deep = 1; deep <= 6; deep++) {
            tiles.set(DEEP, deep);
            // 1 is split for both, behind it one more of each depth for the points, and one for an order
            int splits = 2 * deep - 1;
            Due.is("leaves with DEEP " + deep, tiles.count(1), 1 + 3 * splits);
            Due.is("tiles with DEEP " + deep, tiles.count(2), 1 + 4 * splits);
            Due.is("depth with DEEP " + deep, tiles.count(3), deep);
            Due.is("leaves without points with DEEP " + deep, tiles.count(4), 3 * splits - (deep == 6 ? 1 : 0));
            Due.is("unevenness with DEEP " + deep, tiles.count(6), deep == 1 ? 0 : 1);
            Due.is("leaves of the window with DEEP " + deep, tiles.window(0, 0, 63, 63, 1), 1 + 3 * splits);
            Due.is("tiles of the window with DEEP " + deep, tiles.window(0, 0, 63, 63, 2), 1 + 4 * splits);
            Due.is("smallest with a window with DEEP " + deep, tiles.window(63, 63, 63, 63, 3), (4 << 2 * deep) / 2 - 1);
        }
    }

    /** "1 leaves, 2 tiles that are there, 3 the greatest depth of a leaf ..": an order alone brings no tile there. */
    private static void ordersOfTilesNotThereCountForNothing() {
        for (int split = 4; split <= 7; split++) {
            for (int leaf = 4; leaf <= 7; leaf++) {
                if (leaf != split) {
                    QuarterTiles tiles = withOrders(1, split, 4 * leaf, 4 * leaf + 1, 4 * leaf + 2, 4 * leaf + 3);
                    String with = " with " + split + " and orders in " + leaf;
                    int[] due = {0, 7, 9, 2, 7, 6, 1};
                    for (int what = 0; what < due.length; what++) {
                        Due.is("count(" + what + ")" + with, tiles.count(what), due[what]);
                    }
                    Due.is("leaves of the window" + with, tiles.window(0, 0, 63, 63, 1), 7);
                    Due.is("tiles of the window" + with, tiles.window(0, 0, 63, 63, 2), 9);
                    Due.is("neighbours" + with, tiles.neighbours(leaf), leaf + split == 11 ? 2 : 3);
                }
            }
        }
        Due.is("unevenness beside what is not there", withOrders(1, 4, 6, 7, 24).count(6), 1);
    }

    /** "the greatest difference of depth of two leaves that are neighbours (0 if there are none)". */
    private static void unevennessOfLeaves() {
        int[] orders = {1, 4, 19, 79, 319, 1279};
        int[] due = {0, 1, 2, 3, 4, 5};
        QuarterTiles tiles = new QuarterTiles();
        Due.is("unevenness of one leaf", tiles.count(6), 0);
        for (int i = 0; i < orders.length; i++) {
            tiles.split(orders[i], true);
            Due.is("unevenness with " + orders[i], tiles.count(6), due[i]);
        }
        // a place in the outer corner of the map, where the leaves grow step by step
        Due.is("unevenness of steps", withOrders(1, 7, 31, 127, 511, 2047).count(6), 1);
    }

    /** "the greatest difference of depth": smaller and smaller leaves, at both ends of each side of a large one. */
    private static void unevennessAcrossEachSide() {
        int[][] chains = {{1, 4, 17, 69, 277, 1109}, {1, 4, 18, 74, 298, 1194}, {1, 5, 20, 80, 320, 1280},
            {1, 6, 24, 96, 384, 1536}, {1, 6, 27, 111, 447, 1791}, {1, 5, 23, 95, 383, 1535}, {1, 5, 22, 90, 362, 1450},
            {1, 6, 25, 101, 405, 1621}};
        int[] beside = {5, 6, 4, 4, 7, 7, 4, 4};
        for (int way = 0; way < chains.length; way++) {
            int[] chain = chains[way];
            QuarterTiles tiles = new QuarterTiles();
            for (int i = 0; i < chain.length; i++) {
                tiles.split(chain[i], true);
                Due.is("unevenness along the side with " + chain[i], tiles.count(6), i);
                Due.is("neighbours along the side with " + chain[i], tiles.neighbours(beside[way]), i + 2);
            }
            for (int deep = 1; deep <= 6; deep++) {
                tiles.set(DEEP, deep);
                Due.is("unevenness along the side with DEEP " + deep, tiles.count(6), deep - 1);
                Due.is("neighbours along the side with DEEP " + deep, tiles.neighbours(beside[way]), deep + 1);
            }
        }
    }

    /** "two leaves that are neighbours": those that meet at a corner alone are none, whatever their depths are. */
    private static void unevennessAcrossCorners() {
        // a leaf of the depth 3 in the middle of the map; across the corner is one of the depth 1
        int[][] corners = {{1, 4, 5, 6, 19}, {1, 5, 4, 7, 22}, {1, 6, 4, 7, 25}, {1, 7, 5, 6, 28}};
        for (int[] corner : corners) {
            QuarterTiles tiles = withOrders(corner);
            Due.is("unevenness with " + corner[4], tiles.count(6), 1);
            tiles.split(corner[2], false);
            Due.is("unevenness without " + corner[2], tiles.count(6), 2);
        }
    }

    // ---- promise 15

    private static void windowIs(QuarterTiles tiles, int[] each) {
        for (int what = 0; what < 4; what++) {
            Due.is("window(" + each[0] + ", " + each[1] + ", " + each[2] + ", " + each[3] + ", " + what + ")",
                tiles.window(each[0], each[1], each[2], each[3], what), each[4 + what]);
        }
    }

    /** "the places from (x, y) to (toX, toY), both in it": one place, in each corner of the map. */
    private static void windowOfOnePlace() {
        QuarterTiles tiles = withPoints("0,0;63,0;63,63");
        tiles.set(FULL, 3);
        for (int[] each : new int[][] {{0, 0, 0, 0, 1, 1, 1, 1}, {63, 0, 63, 0, 1, 1, 1, 1}, {0, 63, 0, 63, 0, 1, 1, 1},
            {63, 63, 63, 63, 1, 1, 1, 1}}) {
            windowIs(tiles, each);
        }
        tiles.set(FULL, 2);
        for (int[] each : new int[][] {{0, 0, 0, 0, 1, 1, 2, 4}, {63, 0, 63, 0, 1, 1, 2, 5}, {0, 63, 0, 63, 0, 1, 2, 6},
            {63, 63, 63, 63, 1, 1, 2, 7}, {31, 31, 31, 31, 0, 1, 2, 4}, {32, 32, 32, 32, 0, 1, 2, 7}}) {
            windowIs(tiles, each);
        }
        Due.is("toX below x by one", tiles.window(63, 63, 62, 63, 0), BAD_VALUE);
        Due.is("toY below y by one", tiles.window(63, 63, 63, 62, 0), BAD_VALUE);
        Due.is("toX 64", tiles.window(63, 63, 64, 63, 0), NO_SUCH);
        Due.is("toY 64", tiles.window(63, 63, 63, 64, 0), NO_SUCH);
        Due.is("x -1", tiles.window(-1, 0, 0, 0, 0), NO_SUCH);
        Due.is("y -1", tiles.window(0, -1, 0, 0, 0), NO_SUCH);
    }

    /** "the places from (x, y) to (toX, toY), both in it": the whole map, and parts of it up to its edges. */
    private static void windowOfAll() {
        windowIs(new QuarterTiles(), new int[] {0, 0, 63, 63, 0, 1, 1, 1});
        QuarterTiles tiles = withFiftyPoints();
        // split are 1, 4, 16, 64 and 65, 256 to 260, and ten tiles of the size 2, those with four points
        windowIs(tiles, new int[] {0, 0, 63, 63, 50, 61, 81, 1});
        windowIs(tiles, new int[] {0, 0, 9, 4, 50, 45, 65, 16});
        windowIs(tiles, new int[] {10, 0, 63, 4, 0, 7, 12, 1});
        windowIs(tiles, new int[] {0, 5, 9, 63, 0, 13, 20, 1});
        windowIs(tiles, new int[] {9, 4, 63, 63, 1, 9, 13, 1});
    }

    /** "the places from (x, y) to (toX, toY), both in it": what is just inside of its sides, and just outside. */
    private static void windowAtSides() {
        QuarterTiles tiles = withOrders(1, 4, 19);
        tiles.set(FULL, 8);
        text(tiles, "20,20;27,20;20,27;27,27");
        tiles.putAll();
        for (int[] each : new int[][] {{20, 20, 27, 27, 4, 4, 7, 19}, {21, 20, 27, 27, 2, 4, 7, 19},
            {20, 21, 27, 27, 2, 4, 7, 19}, {20, 20, 26, 27, 2, 4, 7, 19}, {20, 20, 27, 26, 2, 4, 7, 19},
            {21, 21, 26, 26, 0, 4, 7, 19}, {16, 16, 23, 23, 1, 1, 4, 76}, {16, 16, 24, 23, 1, 2, 5, 19},
            {16, 16, 23, 24, 1, 2, 5, 19}, {15, 16, 23, 23, 1, 2, 5, 4}, {16, 15, 23, 23, 1, 2, 5, 4},
            {24, 24, 31, 31, 1, 1, 4, 79}, {24, 24, 32, 31, 1, 2, 5, 1}, {24, 24, 31, 32, 1, 2, 5, 1},
            {31, 31, 32, 32, 0, 4, 7, 1}, {23, 24, 31, 31, 1, 2, 5, 19}, {0, 0, 15, 15, 0, 1, 3, 16}}) {
            windowIs(tiles, each);
        }
    }

    // ---- promise 16

    /** "NONE if there are no points". */
    private static void nearestOfNone() {
        for (int what = 0; what < 2; what++) {
            QuarterTiles tiles = new QuarterTiles();
            Due.is("nearest(0, 0, " + what + ") of none", tiles.nearest(0, 0, what), NONE);
            tiles.point(0, 0);
            Due.is("nearest(0, 0, " + what + ") of one", tiles.nearest(0, 0, what), 0);
            tiles.take(0);
            Due.is("nearest(0, 0, " + what + ") of none again", tiles.nearest(0, 0, what), NONE);
            Due.is("nearest(64, 0, " + what + ") of none", tiles.nearest(64, 0, what), NO_SUCH);
        }
        Due.is("nearest(0, 0, 2) of none", new QuarterTiles().nearest(0, 0, 2), BAD_VALUE);
        Due.is("nearest(0, 0, -1) of none", new QuarterTiles().nearest(0, 0, -1), BAD_VALUE);
    }

    /** "with the least sum of the squares of both differences; of several the lowest". */
    private static void nearestLowest() {
        QuarterTiles tiles = withPoints("10,5;0,5;5,10;5,0;8,9;1,2");
        // all six are at the distance 5 from (5, 5)
        Due.is("the sum of all six", tiles.nearest(5, 5, 1), 25);
        for (int left = 6; left > 0; left--) {
            Due.is("the lowest of " + left, tiles.nearest(5, 5, 0), 0);
            tiles.take(0);
        }
        QuarterTiles later = withPoints("0,0;4,4;4,6;5,4");
        Due.is("a lower one that is farther", later.nearest(5, 5, 0), 3);
        Due.is("its sum", later.nearest(5, 5, 1), 1);
        Due.is("the lower of two as far", later.nearest(4, 5, 0), 1);
        Due.is("its sum too", later.nearest(4, 5, 1), 1);
    }

    /** "the least sum of the squares of both differences": the greatest that it can be, and 0. */
    private static void nearestFarthest() {
        for (int corner = 0; corner < 4; corner++) {
            int x = corner % 2 * 63;
            int y = corner / 2 * 63;
            QuarterTiles tiles = new QuarterTiles();
            tiles.point(63 - x, 63 - y);
            Due.is("the farthest point", tiles.nearest(x, y, 0), 0);
            Due.is("the greatest sum", tiles.nearest(x, y, 1), 7938);
            Due.is("at the point itself", tiles.nearest(63 - x, 63 - y, 1), 0);
        }
        QuarterTiles many = withFiftyPoints();
        Due.is("the last of 50", many.nearest(63, 63, 0), 49);
        Due.is("its sum", many.nearest(63, 63, 1), 54 * 54 + 59 * 59);
    }

    // ---- promise 17

    /** "Tells what a point at a place would bring": that is what point() brings then. */
    private static void ifPutAsPoint() {
        QuarterTiles tiles = withOrders(7, 31);
        for (int i = 0; i < 50; i++) {
            int x = i * i % 64;
            int y = 63 - i;
            int leaves = tiles.ifPut(x, y, 0);
            int depth = tiles.ifPut(x, y, 1);
            Due.is("ifPut(" + x + ", " + y + ", 0)", leaves, tiles.point(x, y));
            Due.is("ifPut(" + x + ", " + y + ", 1)", depth, tiles.tile(tiles.of(i, 2), 3));
            Due.is("ifPut where it is then", tiles.ifPut(x, y, i % 2), NOT_POSSIBLE);
        }
    }

    /** "0 how many leaves there would be": as many points as FULL split nothing, one more does. */
    private static void ifPutAtFull() {
        for (int full = 1; full <= 8; full++) {
            QuarterTiles tiles = new QuarterTiles();
            tiles.set(FULL, full);
            for (int i = 0; i < full; i++) {
                Due.is("ifPut of " + (i + 1) + " with FULL " + full, tiles.ifPut(63 * (i % 2), i, 0), 1);
                Due.is("depth of " + (i + 1) + " with FULL " + full, tiles.ifPut(63 * (i % 2), i, 1), 0);
                tiles.point(63 * (i % 2), i);
            }
            Due.is("ifPut of one more than FULL " + full, tiles.ifPut(63, 63, 0), 4);
            Due.is("depth of one more than FULL " + full, tiles.ifPut(63, 63, 1), 1);
            Due.is("leaves still", tiles.count(1), 1);
            Due.is("points still", tiles.count(0), full);
        }
    }

    /** "1 the depth of its leaf": up to DEEP, and not beyond. */
    private static void ifPutDeepest() {
        QuarterTiles tiles = withPoints("63,63");
        tiles.set(FULL, 1);
        for (int deep = 1; deep <= 6; deep++) {
            tiles.set(DEEP, deep);
            Due.is("ifPut beside it with DEEP " + deep, tiles.ifPut(62, 63, 0), 1 + 3 * deep);
            Due.is("depth beside it with DEEP " + deep, tiles.ifPut(62, 63, 1), deep);
            Due.is("depth far from it with DEEP " + deep, tiles.ifPut(0, 0, 1), 1);
        }
    }

    /** "TOO_MANY if there are 50", behind BAD_VALUE and NOT_POSSIBLE; with 49 there is none. */
    private static void ifPutFifty() {
        QuarterTiles tiles = withFiftyPoints();
        for (int what = 0; what < 2; what++) {
            Due.is("ifPut of the 51st", tiles.ifPut(63, 63, what), TOO_MANY);
            Due.is("ifPut of the 51st where one is", tiles.ifPut(9, 4, what), NOT_POSSIBLE);
            Due.is("ifPut of the 51st beyond the map", tiles.ifPut(63, 64, what), NO_SUCH);
        }
        Due.is("ifPut of the 51st where one is, what 2", tiles.ifPut(9, 4, 2), BAD_VALUE);
        tiles.take(49);
        Due.is("ifPut of the 50th", tiles.ifPut(63, 63, 1), 1);
        Due.holds("ifPut of the 50th where one was", tiles.ifPut(9, 4, 0) > 0);
    }

    // ---- promise 18

    /** "leaves: 1 to 4096". */
    private static void leastFullOfAllLeaves() {
        QuarterTiles tiles = withFiftyPoints();
        Due.is("leastFull(4096)", tiles.leastFull(4096), 1);
        Due.is("leastFull(4097)", tiles.leastFull(4097), BAD_VALUE);
        Due.is("leastFull(1)", tiles.leastFull(1), NONE);
        Due.is("leastFull(0)", tiles.leastFull(0), BAD_VALUE);
        Due.is("leastFull(-1)", tiles.leastFull(-1), BAD_VALUE);
        // leaves with FULL 1 to 8, as the points stand: see the test of set()
        Due.is("leastFull(79)", tiles.leastFull(79), 1);
        Due.is("leastFull(78)", tiles.leastFull(78), 2);
        Due.is("leastFull(61)", tiles.leastFull(61), 2);
        Due.holds("leastFull(60)", tiles.leastFull(60) > 2);
        Due.is("leastFull(22)", tiles.leastFull(22), 8);
        Due.is("leastFull(21)", tiles.leastFull(21), NONE);
        Due.is("FULL is as it was", tiles.count(7), 2);
        Due.is("leaves are as they were", tiles.count(1), 61);
    }

    /** "Finds the least FULL, 1 to 8, with which there would be at most so many leaves." */
    private static void leastFullOfPoints() {
        for (int points = 1; points <= 9; points++) {
            QuarterTiles tiles = new QuarterTiles();
            for (int i = 0; i < points; i++) {
                tiles.point(i % 2 * 32 + i / 4, i / 2 % 2 * 32);
            }
            Due.is("leastFull(1) of " + points, tiles.leastFull(1), points <= 8 ? points : NONE);
            Due.is("leastFull(3) of " + points, tiles.leastFull(3), points <= 8 ? points : NONE);
            Due.is("leastFull(4) of " + points, tiles.leastFull(4), points <= 4 ? 1 : points <= 8 ? 2 : 3);
        }
    }

    /** "NONE if there is none": orders split whatever FULL is, up to DEEP. */
    private static void leastFullOfNone() {
        QuarterTiles tiles = withOrders(1, 4);
        Due.is("leastFull(6) with orders", tiles.leastFull(6), NONE);
        Due.is("leastFull(7) with orders", tiles.leastFull(7), 1);
        tiles.set(DEEP, 1);
        Due.is("leastFull(3) with DEEP 1", tiles.leastFull(3), NONE);
        Due.is("leastFull(4) with DEEP 1", tiles.leastFull(4), 1);
        tiles.split(1, false);
        Due.is("leastFull(1) with an order that does not hold", tiles.leastFull(1), 1);
        tiles.set(FULL, 8);
        Due.is("leastFull is not above what is set alone", tiles.leastFull(4096), 1);
    }
}
