/** The boundary cases of what the document says ahead of its promises, sentence by sentence, in its order. */
public final class TermsTest extends Given {
    private static final int MAP = 64;
    private static final int DEEPEST = 6;
    private static final int[] STEP_X = {1, 1, 0, -1, -1, -1, 0, 1};
    private static final int[] STEP_Y = {0, 1, 1, 1, 0, -1, -1, -1};

    private TermsTest() {
    }

    public static void main(String[] args) {
        lastCall();
        numberedFromZero();
        firstSettings();
        rangeOfFull();
        rangeOfDeep();
        mostPointsOfATile();
        mostPointsOfAQuarter();
        depthByPoints();
        depthByOrders();
        placesOfTheMap();
        noneAndFiftyPoints();
        noTwoAtOnePlace();
        numbersMoveUp();
        wholeMap();
        quartersOfEachTile();
        numbersThatAre();
        numbersWhetherThereOrNot();
        splitByEitherOrBoth();
        orderOfATileNotThere();
        orderOfATileThatGoes();
        eightDirections();
        cornersOfTheMap();
        edgesOfTheMap();
        neighboursAcrossSidesOnly();
        lengthsOfTheText();
        eachCharacterAtEachPlace();
        eachNumber();
        textsCutShort();
        Due.end("TermsTest");
    }

    // ---- what it is, conventions

    /** "An object is used for at most 512 calls": the last of them answers as the first. */
    private static void lastCall() {
        QuarterTiles tiles = new QuarterTiles();
        for (int call = 1; call < CALLS_OF_AN_OBJECT; call++) {
            tiles.set(FULL, call % 8 + 1);
        }
        Due.is("call 512", tiles.count(7), 511 % 8 + 1);
        QuarterTiles busy = withFiftyPoints();
        for (int call = 51; call < CALLS_OF_AN_OBJECT; call++) {
            busy.move(call % 50, call % 64, 63 - call / 64);
        }
        Due.is("call 512, of a busy one", busy.nearest(511 % 64, 63 - 511 / 64, 0), 511 % 50);
    }

    /** "Everything is numbered from 0." */
    private static void numberedFromZero() {
        QuarterTiles tiles = withPoints("1,2;3,4");
        isAt("the first point is 0", tiles, 0, 1, 2);
        isAt("the second point is 1", tiles, 1, 3, 4);
        Due.is("of both the first is 0 in the order of paths", tiles.of(0, 3), 0);
        Due.is("the first letter is at 0", tiles.letter(5, 0), 1);
        Due.is("a fault at the first character is 0", withText("x").fault(), 0);
        Due.is("slots begin at 0", tiles.save(0), 2);
        Due.is("slots end at 1", tiles.save(1), 2);
    }

    // ---- settings

    /** "(In parentheses: range; first value.)" */
    private static void firstSettings() {
        Due.is("FULL first", new QuarterTiles().count(7), 2);
        Due.is("DEEP first", new QuarterTiles().count(8), 6);
        Due.is("FULL, told by set", new QuarterTiles().set(FULL, 1), 2);
        Due.is("DEEP, told by set", new QuarterTiles().set(DEEP, 1), 6);
    }

    /** "FULL (1 to 8; 2)". */
    private static void rangeOfFull() {
        QuarterTiles tiles = new QuarterTiles();
        int before = 2;
        for (int full : new int[] {1, 8, 2, 7, 3, 6, 4, 5, 1}) {
            Due.is("set(FULL, " + full + ")", tiles.set(FULL, full), before);
            Due.is("FULL then", tiles.count(7), full);
            Due.is("DEEP stays", tiles.count(8), 6);
            before = full;
        }
        for (int wrong : new int[] {0, 9, -1, -8, LEAST, GREATEST}) {
            Due.is("set(FULL, " + wrong + ")", tiles.set(FULL, wrong), BAD_VALUE);
            Due.is("FULL stays", tiles.count(7), 1);
        }
    }

    /** "DEEP (1 to 6; 6)". */
    private static void rangeOfDeep() {
        QuarterTiles tiles = new QuarterTiles();
        int before = 6;
        for (int deep : new int[] {1, 6, 2, 5, 3, 4, 6}) {
            Due.is("set(DEEP, " + deep + ")", tiles.set(DEEP, deep), before);
            Due.is("DEEP then", tiles.count(8), deep);
            Due.is("FULL stays", tiles.count(7), 2);
            before = deep;
        }
        for (int wrong : new int[] {0, 7, 8, -1, LEAST, GREATEST}) {
            Due.is("set(DEEP, " + wrong + ")", tiles.set(DEEP, wrong), BAD_VALUE);
            Due.is("DEEP stays", tiles.count(8), 6);
        }
    }

    /** "the most points of a tile that is not split for them": FULL are not too many, one more is. */
    private static void mostPointsOfATile() {
        for (int full = 1; full <= 8; full++) {
            QuarterTiles tiles = new QuarterTiles();
            tiles.set(FULL, full);
            for (int i = 0; i < full; i++) {
                Due.is("point " + i + " of " + full, tiles.point(i % 2 * 32 + i / 4, i / 2 % 2 * 32), 1);
            }
            Due.is("the map with " + full + " points", tiles.tile(1, 5), 1);
            Due.is("one point more than " + full, tiles.point(63, 63), 4);
            Due.is("the map with one more", tiles.tile(1, 5), 2);
            Due.is("one point less again", tiles.take(0), 1);
        }
    }

    /** "FULL (1 to 8; 2), the most points of a tile that is not split for them", of a tile that is not the whole map. */
    private static void mostPointsOfAQuarter() {
        for (int full = 1; full <= 8; full++) {
            QuarterTiles tiles = withOrders(1);
            tiles.set(FULL, full);
            for (int i = 0; i < full; i++) {
                Due.is("point " + i + " of " + full + " in d", tiles.point(i % 2 * 16 + 32 + i / 4, i / 2 % 2 * 16 + 32), 4);
            }
            Due.is("one point more than " + full + " in d", tiles.point(63, 63), 7);
            Due.is("d is split", tiles.tile(7, 5), 2);
            Due.is("one point moved out of d", tiles.move(full, 31, 63), 4);
            Due.is("d is a leaf", tiles.tile(7, 5), 1);
        }
    }

    /** "how often a tile can be quartered from the whole map on", with two points side by side. */
    private static void depthByPoints() {
        for (int deep = 1; deep <= 6; deep++) {
            QuarterTiles tiles = withPoints("0,0;1,0");
            tiles.set(FULL, 1);
            tiles.set(DEEP, deep);
            Due.is("depth by points with DEEP " + deep, tiles.count(3), deep);
            Due.is("leaves by points with DEEP " + deep, tiles.count(1), 1 + 3 * deep);
            Due.is("the leaf at 0 0", tiles.leafAt(0, 0), 1 << 2 * deep);
            Due.is("the points of this leaf", tiles.tile(1 << 2 * deep, 4), deep == 6 ? 1 : 2);
        }
    }

    /** "A tile that is there is split if its depth is less than DEEP, and besides .. an order": not at this depth. */
    private static void depthByOrders() {
        QuarterTiles tiles = withOrders(1, 7, 31, 127, 511, 2047);
        for (int deep = 1; deep <= 6; deep++) {
            tiles.set(DEEP, deep);
            int leaf = NUMBERS_OF_DEPTH[deep][1];
            Due.is("depth by orders with DEEP " + deep, tiles.count(3), deep);
            Due.is("leaves by orders with DEEP " + deep, tiles.count(1), 1 + 3 * deep);
            Due.is("the leaf at 63 63", tiles.leafAt(63, 63), leaf);
            Due.is("it is ordered to be split", tiles.tile(leaf, 6), deep < 6 ? 1 : 0);
            Due.is("it is a leaf", tiles.tile(leaf, 5), 1);
            Due.is("the one around it is split", tiles.tile(leaf >> 2, 5), 2);
            Due.is("its quarters are not there", tiles.tile(4 * leaf, 5), deep < 6 ? 0 : NO_SUCH);
        }
    }

    // ---- map, points

    /** "The map has 64 by 64 places (x, y), x and y being 0 to 63." */
    private static void placesOfTheMap() {
        for (int corner = 0; corner < 4; corner++) {
            int x = corner % 2 * 63;
            int y = corner / 2 * 63;
            Due.is("point in the corner " + x + " " + y, new QuarterTiles().point(x, y), 1);
            Due.is("leafAt the corner", new QuarterTiles().leafAt(x, y), 1);
            Due.is("ifPut in the corner", new QuarterTiles().ifPut(x, y, 0), 1);
            Due.is("nearest to the corner", withPoints("0,0").nearest(x, y, 1), x * x + y * y);
            Due.is("window of the corner", new QuarterTiles().window(x, y, x, y, 1), 1);
            Due.is("move to the corner", withPoints("5,5").move(0, x, y), 1);
            int beyondX = corner % 2 == 0 ? -1 : 64;
            int beyondY = corner / 2 == 0 ? -1 : 64;
            Due.is("point beyond the corner in x", new QuarterTiles().point(beyondX, y), NO_SUCH);
            Due.is("point beyond the corner in y", new QuarterTiles().point(x, beyondY), NO_SUCH);
            Due.is("point beyond the corner in both", new QuarterTiles().point(beyondX, beyondY), NO_SUCH);
        }
        for (int wrong : NO_COORDINATES) {
            for (int right : new int[] {0, 63}) {
                Due.is("leafAt beyond the map, x", new QuarterTiles().leafAt(wrong, right), NO_SUCH);
                Due.is("leafAt beyond the map, y", new QuarterTiles().leafAt(right, wrong), NO_SUCH);
                Due.is("window beyond the map, x", new QuarterTiles().window(0, 0, wrong, right, 0), NO_SUCH);
                Due.is("window beyond the map, y", new QuarterTiles().window(0, 0, right, wrong, 0), NO_SUCH);
                Due.is("move beyond the map, x", withPoints("5,5").move(0, wrong, right), NO_SUCH);
                Due.is("move beyond the map, y", withPoints("5,5").move(0, right, wrong), NO_SUCH);
            }
        }
    }

    /** "There are up to 50 points". */
    private static void noneAndFiftyPoints() {
        Due.is("no points", new QuarterTiles().count(0), 0);
        Due.is("no points in the map", new QuarterTiles().tile(1, 4), 0);
        QuarterTiles tiles = withFiftyPoints();
        Due.is("50 points", tiles.count(0), 50);
        Due.is("50 points in the map", tiles.tile(1, 4), 50);
        Due.is("50 points in the window", tiles.window(0, 0, 63, 63, 0), 50);
        isAt("the last of 50", tiles, 49, 9, 4);
        Due.is("no point 50", tiles.of(50, 0), NO_SUCH);
        Due.is("the 51st", tiles.point(63, 63), TOO_MANY);
        Due.is("50 points still", tiles.count(0), 50);
        tiles.take(0);
        Due.holds("the 50th again", tiles.point(63, 63) > 0);
        Due.is("50 points again", tiles.count(0), 50);
    }

    /** "no two at the same place": those that share a coordinate only are at two places. */
    private static void noTwoAtOnePlace() {
        QuarterTiles tiles = withPoints("5,6");
        Due.is("x and y changed about", tiles.point(6, 5), 1);
        Due.holds("the same x", tiles.point(5, 5) > 0);
        Due.holds("the same y", tiles.point(6, 6) > 0);
        Due.is("the same place", tiles.point(5, 6), NOT_POSSIBLE);
        tiles.take(0);
        Due.holds("the place of one that was taken away", tiles.point(5, 6) > 0);
        isAt("it is the last one", tiles, 3, 5, 6);
    }

    /** "numbered in the order in which they were put (when one is taken away, those behind it move up)". */
    private static void numbersMoveUp() {
        for (int taken : new int[] {0, 1, 24, 48, 49}) {
            QuarterTiles tiles = withFiftyPoints();
            tiles.take(taken);
            for (int point = 0; point < 49; point++) {
                int before = point < taken ? point : point + 1;
                isAt("point " + point + " when " + taken + " is taken", tiles, point, before % 10, before / 10);
            }
            Due.is("there is no point 49 then", tiles.of(49, 0), NO_SUCH);
        }
    }

    // ---- tiles

    /** "The whole map is one; its depth is 0, its path is empty." */
    private static void wholeMap() {
        QuarterTiles tiles = new QuarterTiles();
        int[] due = {0, 0, 64, 0, 0, 1, 0, 1};
        for (int what = 0; what < due.length; what++) {
            Due.is("tile(1, " + what + ")", tiles.tile(1, what), due[what]);
        }
        Due.is("the empty path has no letter", tiles.letter(1, 0), NO_SUCH);
        Due.is("the map is there when it is split", withOrders(1).tile(1, 5), 2);
        for (int quarter = 4; quarter <= 7; quarter++) {
            Due.is("quarter " + quarter + " is not there", tiles.tile(quarter, 5), 0);
        }
    }

    /** "a from (x, y) on, b from (x + s / 2, y) on, c .., d ..", "4 * n, and 0, 1, 2 or 3 more". */
    private static void quartersOfEachTile() {
        for (int depth = 0; depth < DEEPEST; depth++) {
            for (int tile = NUMBERS_OF_DEPTH[depth][0]; tile <= NUMBERS_OF_DEPTH[depth][1]; tile++) {
                QuarterTiles tiles = new QuarterTiles();
                int half = tiles.tile(tile, 2) / 2;
                for (int letter = 0; letter < 4; letter++) {
                    int quarter = 4 * tile + letter;
                    Due.is("x of " + quarter, tiles.tile(quarter, 0), tiles.tile(tile, 0) + letter % 2 * half);
                    Due.is("y of " + quarter, tiles.tile(quarter, 1), tiles.tile(tile, 1) + letter / 2 * half);
                    Due.is("size of " + quarter, tiles.tile(quarter, 2), half);
                    Due.is("depth of " + quarter, tiles.tile(quarter, 3), depth + 1);
                    Due.is("last letter of " + quarter, tiles.letter(quarter, depth), letter);
                    Due.is("no letter behind", tiles.letter(quarter, depth + 1), NO_SUCH);
                    Due.is("first letter of " + quarter, tiles.letter(quarter, 0), depth == 0 ? letter : tiles.letter(tile, 0));
                }
            }
        }
    }

    /** "Numbers of tiles are those of all quarters up to the depth 6". */
    private static void numbersThatAre() {
        QuarterTiles tiles = new QuarterTiles();
        for (int number = -100; number < 40000; number++) {
            if (number % 100 == 0) {
                tiles = new QuarterTiles();
            }
            int depth = depthOf(number);
            Due.is("depth of " + number, tiles.tile(number, 3), depth);
            Due.holds("first letter of " + number, tiles.letter(number, 0) >= 0 == depth > 0);
            Due.holds("beside " + number, tiles.beside(number, 0, 0) == NO_SUCH == depth < 0);
            Due.is("neighbours of " + number, tiles.neighbours(number), depth < 0 ? NO_SUCH : depth == 0 ? 0 : NOT_POSSIBLE);
            Due.is("no order to take back from " + number, tiles.split(number, false),
                depth < 0 || depth == DEEPEST ? NO_SUCH : NOT_POSSIBLE);
        }
        for (int bit = 13; bit < 32; bit++) {
            for (int more : new int[] {-1, 0, 1, 4, 4096}) {
                int number = (1 << bit) + more;
                Due.is("tile(" + number + ", 3)", new QuarterTiles().tile(number, 3), depthOf(number));
            }
        }
    }

    private static int depthOf(int number) {
        for (int depth = 0; depth <= DEEPEST; depth++) {
            if (number >= NUMBERS_OF_DEPTH[depth][0] && number <= NUMBERS_OF_DEPTH[depth][1]) {
                return depth;
            }
        }
        return NO_SUCH;
    }

    /** "(whether they are there or not)": what a tile is by its number alone, it is also beyond DEEP. */
    private static void numbersWhetherThereOrNot() {
        QuarterTiles tiles = withPoints("63,63");
        tiles.set(DEEP, 1);
        Due.is("x of the greatest number", tiles.tile(8191, 0), 63);
        Due.is("y of the greatest number", tiles.tile(8191, 1), 63);
        Due.is("points of the greatest number", tiles.tile(8191, 4), 1);
        Due.is("the greatest number is not there", tiles.tile(8191, 5), 0);
        Due.is("beside the greatest number", tiles.beside(8191, 4, 0), 8190);
        Due.is("beside the greatest number, there", tiles.beside(8191, 4, 1), 1);
        Due.is("its last letter", tiles.letter(8191, 5), 3);
        Due.is("the greatest number that can be ordered", tiles.split(2047, true), 1);
    }

    /** "more than FULL points, or an order to split it was given (split()), or both; .. Otherwise it is a leaf." */
    private static void splitByEitherOrBoth() {
        QuarterTiles tiles = withPoints("0,0;40,0");
        Due.is("neither", tiles.tile(1, 5), 1);
        Due.is("by order alone", tiles.split(1, true), 4);
        Due.is("by both", tiles.point(0, 40), 4);
        Due.is("by points alone", tiles.split(1, false), 4);
        Due.is("by neither again", tiles.take(0), 1);
        Due.is("a leaf again", tiles.tile(1, 5), 1);
        Due.is("its quarters are not there", tiles.tile(4, 5), 0);
    }

    /** "(An order holds on, also while its tile is not there.)" */
    private static void orderOfATileNotThere() {
        QuarterTiles tiles = new QuarterTiles();
        Due.is("an order for a tile not there", tiles.split(2047, true), 1);
        tiles.split(511, true);
        tiles.split(127, true);
        tiles.split(31, true);
        Due.is("four orders, none there", tiles.split(7, true), 1);
        Due.is("all of them hold", tiles.split(1, true), 19);
        Due.is("none is there", tiles.split(1, false), 1);
        Due.is("one is taken back while it is not there", tiles.split(31, false), 1);
        Due.is("the others hold on", tiles.split(1, true), 7);
        Due.is("it is given again", tiles.split(31, true), 19);
        tiles.set(DEEP, 2);
        Due.is("beyond DEEP none is there", tiles.count(1), 7);
        Due.is("beyond DEEP they are orders still", tiles.count(5), 6);
        Due.is("one is taken back beyond DEEP", tiles.split(2047, false), 7);
        tiles.set(DEEP, 6);
        Due.is("the others hold on beyond DEEP", tiles.count(1), 16);
    }

    /** "(An order holds on, also while its tile is not there.)": the tile goes by what is done to points and settings. */
    private static void orderOfATileThatGoes() {
        Call[] goes = {tiles -> tiles.take(0), tiles -> tiles.move(0, 5, 63), tiles -> tiles.set(FULL, 8),
            tiles -> tiles.set(DEEP, 1)};
        Call[] comes = {tiles -> tiles.point(61, 61), tiles -> tiles.move(0, 61, 61), tiles -> tiles.set(FULL, 2),
            tiles -> tiles.set(DEEP, 6)};
        for (int way = 0; way < goes.length; way++) {
            QuarterTiles tiles = withPoints("32,32;63,32;63,63");
            tiles.split(28, true);
            tiles.split(112, true);
            Due.is("an ordered tile in one split by points", tiles.tile(112, 5), 2);
            Due.holds("it goes by " + way, goes[way].on(tiles) > 0);
            Due.is("it is not there", tiles.tile(112, 5), 0);
            Due.is("it is ordered while it is not there", tiles.tile(112, 6), 1);
            Due.is("both are orders", tiles.count(5), 2);
            Due.holds("it comes by " + way, comes[way].on(tiles) > 0);
            Due.is("it is split again", tiles.tile(112, 5), 2);
            Due.is("leaves then", tiles.count(1), 13);
        }
        QuarterTiles none = withPoints("1,1");
        none.split(1, true);
        none.take(0);
        Due.is("an order without points", none.count(1), 4);
    }

    // ---- sides

    private static int numberAt(int x, int y, int depth) {
        int number = 1;
        for (int half = MAP / 2; half >= MAP >> depth; half /= 2) {
            number = 4 * number + x / half % 2 + y / half % 2 * 2;
        }
        return number;
    }

    /** "The tile beside a tile .. its own moved by its size in this direction; there is none beyond the map." */
    private static void eightDirections() {
        for (int depth = 0; depth <= DEEPEST; depth++) {
            int size = MAP >> depth;
            for (int x = 0; x < MAP; x += size) {
                for (int y = 0; y < MAP; y += size) {
                    QuarterTiles tiles = new QuarterTiles();
                    for (int direction = 0; direction < 8; direction++) {
                        besideIs(tiles, x, y, depth, direction);
                    }
                }
            }
        }
    }

    private static void besideIs(QuarterTiles tiles, int x, int y, int depth, int direction) {
        int size = MAP >> depth;
        int toX = x + STEP_X[direction] * size;
        int toY = y + STEP_Y[direction] * size;
        boolean isBeyond = toX < 0 || toX >= MAP || toY < 0 || toY >= MAP;
        int tile = numberAt(x, y, depth);
        String call = "beside(" + tile + ", " + direction;
        Due.is(call + ", 0)", tiles.beside(tile, direction, 0), isBeyond ? NONE : numberAt(toX, toY, depth));
        Due.is(call + ", 1)", tiles.beside(tile, direction, 1), isBeyond ? NONE : 1);
    }

    /** "there is none beyond the map": in each corner, at each depth, there are tiles in three directions. */
    private static void cornersOfTheMap() {
        int[] firstInside = {0, 2, 6, 4};
        for (int depth = 1; depth <= DEEPEST; depth++) {
            for (int corner = 0; corner < 4; corner++) {
                int far = MAP - (MAP >> depth);
                int tile = numberAt(corner % 2 * far, corner / 2 * far, depth);
                for (int turn = 0; turn < 8; turn++) {
                    int direction = (firstInside[corner] + turn) % 8;
                    Due.holds("beside(" + tile + ", " + direction + ", 0) in a corner",
                        new QuarterTiles().beside(tile, direction, 0) == NONE == turn > 2);
                }
            }
        }
        for (int direction = 0; direction < 8; direction++) {
            Due.is("beside(1, " + direction + ", 0)", new QuarterTiles().beside(1, direction, 0), NONE);
        }
    }

    /** "there is none beyond the map": at the edges, away from the corners, there are none in three directions. */
    private static void edgesOfTheMap() {
        int[] firstBeyond = {3, 5, 7, 1};
        for (int depth = 2; depth <= DEEPEST; depth++) {
            int size = MAP >> depth;
            int far = MAP - size;
            int[][] edges = {{0, size}, {size, 0}, {far, size}, {size, far}};
            for (int edge = 0; edge < 4; edge++) {
                int tile = numberAt(edges[edge][0], edges[edge][1], depth);
                for (int turn = 0; turn < 8; turn++) {
                    int direction = (firstBeyond[edge] + turn) % 8;
                    Due.holds("beside(" + tile + ", " + direction + ", 0) at an edge",
                        new QuarterTiles().beside(tile, direction, 0) == NONE == turn < 3);
                }
            }
        }
    }

    /** "differ by 1 in one coordinate, and not in the other one": tiles that meet at a corner are no neighbours. */
    private static void neighboursAcrossSidesOnly() {
        QuarterTiles tiles = withOrders(1);
        for (int quarter = 4; quarter <= 7; quarter++) {
            Due.is("neighbours(" + quarter + ") of four", tiles.neighbours(quarter), 2);
        }
        QuarterTiles corner = withOrders(1, 4, 19);
        Due.is("steps to a tile across a corner do not count", corner.neighbours(7), 2);
        Due.is("neighbours of the leaf in the middle of the map", corner.neighbours(79), 4);
        Due.is("neighbours of the leaf that meets 16 at a corner", corner.neighbours(76), 4);
        Due.is("neighbours of the one that it meets", corner.neighbours(16), 2);
        QuarterTiles deep = withOrders(1, 4, 19, 79, 319, 1279);
        Due.is("a leaf of one place in the middle of the map", deep.neighbours(5119), 4);
        Due.is("the quarter across the corner of it", deep.neighbours(7), 2);
        Due.is("the quarter beside it", deep.neighbours(5), 7);
        Due.is("unevenness across its side", deep.count(6), 5);
        Due.is("a place in the corner of the map", withOrders(1, 4, 16, 64, 256, 1024).neighbours(4096), 2);
        Due.is("a place in the last corner of the map", withOrders(1, 7, 31, 127, 511, 2047).neighbours(8191), 2);
    }

    // ---- texts

    /** "a text of at most 80 characters"; "if .. the text ends too early (also if it is empty), it is the length". */
    private static void lengthsOfTheText() {
        Due.is("fault of no text", new QuarterTiles().fault(), 0);
        Due.is("80 characters", withText(EIGHTY).count(9), 80);
        Due.is("fault of 80 characters", withText(EIGHTY).fault(), NONE);
        Due.is("points of 80 characters", withText(EIGHTY).putAll(), 20);
        Due.is("81 characters", withText(EIGHTY).put(';'), TOO_MANY);
        Due.is("fault of 80 characters, the first", withText("x" + EIGHTY.substring(1)).fault(), 0);
        Due.is("fault of 80 characters, the last", withText(EIGHTY.substring(0, 79) + "x").fault(), 79);
        Due.is("fault of 80 characters, a number too great", withText(EIGHTY.substring(1, 80) + "4").fault(), 79);
        Due.is("80 characters that end too early", withText(EIGHTY.substring(1) + ";").fault(), 80);
        Due.is("79 characters that end too early", withText(EIGHTY.substring(0, 79)).fault(), 79);
        Due.is("the first of two faults", withText("1,x;y").fault(), 2);
        Due.is("the first of two faults, the second one too early an end", withText("1,2x,").fault(), 3);
    }

    /** "the index of the first character that cannot stand at its place when the text is read from left to right". */
    private static void eachCharacterAtEachPlace() {
        String digits = "0123456789";
        String[][] next = {{"", digits}, {"0", ","}, {"1", digits + ","}, {"5", digits + ","}, {"6", "0123,"}, {"7", ","},
            {"9", ","}, {"10", ","}, {"63", ","}, {"0,", digits}, {"63,", digits}, {"0,0", ";"}, {"0,1", digits + ";"},
            {"0,5", digits + ";"}, {"0,6", "0123;"}, {"0,7", ";"}, {"0,10", ";"}, {"0,63", ";"}, {"0,0;", digits},
            {"9,9;6", "0123,"}, {"9,9;0", ","}, {"9,9;63,6", "0123;"}, {"9,9;63,63", ";"}, {"9,9;63,63;", digits}};
        for (String[] each : next) {
            for (char added = 33; added <= 126; added++) {
                String text = each[0] + added;
                boolean canStand = each[1].indexOf(added) >= 0;
                boolean isPoint = each[0].lastIndexOf(',') > each[0].lastIndexOf(';') && added != ';';
                int due = !canStand ? each[0].length() : isPoint ? NONE : text.length();
                Due.is("fault of " + text, withText(text).fault(), due);
            }
        }
    }

    /** "number, both 0 to 63 without leading zeros"; "also of a digit by which a number would be above 63". */
    private static void eachNumber() {
        for (int number = 0; number <= 999; number++) {
            int lastRight = number > 99 ? number / 10 <= 63 ? 2 : 1 : 1;
            Due.is("fault of " + number + ",0", withText(number + ",0").fault(), number <= 63 ? NONE : lastRight);
            Due.is("fault of 0," + number, withText("0," + number).fault(), number <= 63 ? NONE : lastRight + 2);
            Due.is("fault of 0" + number + ",0", withText("0" + number + ",0").fault(), 1);
            Due.is("fault of 0,0" + number, withText("0,0" + number).fault(), 3);
            if (number <= 63) {
                isAt("the point of " + number, withPoints(number + "," + (63 - number)), 0, number, 63 - number);
            }
        }
    }

    /** "if there is none and the text ends too early .., it is the length of the text". */
    private static void textsCutShort() {
        String text = "12,34;56,7";
        int[] due = {0, 1, 2, 3, NONE, NONE, 6, 7, 8, 9, NONE};
        for (int length = 0; length < due.length; length++) {
            Due.is("fault of " + text.substring(0, length), withText(text.substring(0, length)).fault(), due[length]);
        }
    }
}
