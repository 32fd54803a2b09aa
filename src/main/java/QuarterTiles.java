/**
 * Map tiles that are quartered again and again. ../shared/DOC.md says what each method promises.
 *
 * A place of the map is held everywhere as the number of its tile of depth 6: such numbers tell x and y, their
 * order is the order of paths, and two bits less each time make the numbers of the tiles around the place.
 */
public final class QuarterTiles {
    public static final int NO_SUCH = -1, BAD_VALUE = -2, BAD_TEXT = -3, TOO_MANY = -4, NOT_POSSIBLE = -5, NONE = -6;
    public static final int FULL = 0, DEEP = 1;

    private static final int NO_ERROR = 0;
    private static final int MAP_SIZE = 64;
    private static final int WHOLE_MAP = 1;
    private static final int DEEPEST = 6;
    private static final int FIRST_PLACE = 4096;
    private static final int NUMBERS_END = 8192;
    private static final int QUARTERS = 4;
    private static final int DIRECTIONS = 8;
    private static final int MOST_POINTS = 50;
    private static final int MOST_ORDERS = 12;
    private static final int MOST_FULL = 8;
    private static final int FIRST_FULL = 2;
    private static final int MOST_LEAVES = 4096;
    private static final int MOST_CHARACTERS = 80;
    private static final int FEWEST_CHARACTERS_OF_A_POINT = 4;
    private static final int MOST_STATES = 6;
    private static final int SLOTS = 2;

    private final Tree tree = new Tree();
    private final History history = new History();
    private final Slots slots = new Slots();
    private final Pad pad = new Pad();

    public QuarterTiles() {
    }

    // ---- changes

    public int set(int setting, int value) {
        if (setting != FULL && setting != DEEP) {
            return BAD_VALUE;
        }
        int most = setting == FULL ? MOST_FULL : DEEPEST;
        if (value < 1 || value > most) {
            return BAD_VALUE;
        }
        Plan plan = tree.plan;
        history.remember(plan);
        int previous = setting == FULL ? plan.full : plan.deep;
        if (setting == FULL) {
            plan.full = value;
        } else {
            plan.deep = value;
        }
        return previous;
    }

    public int point(int x, int y) {
        if (!Numbers.isPlace(x, y)) {
            return NO_SUCH;
        }
        int place = Numbers.placeAt(x, y);
        int error = tree.plan.errorOfPointAt(place);
        if (error != NO_ERROR) {
            return error;
        }
        history.remember(tree.plan);
        tree.addPoint(place);
        return tree.leaves();
    }

    public int take(int point) {
        if (!tree.plan.isPoint(point)) {
            return NO_SUCH;
        }
        history.remember(tree.plan);
        tree.removePoint(point);
        return tree.leaves();
    }

    public int move(int point, int x, int y) {
        if (!tree.plan.isPoint(point) || !Numbers.isPlace(x, y)) {
            return NO_SUCH;
        }
        int place = Numbers.placeAt(x, y);
        int there = tree.plan.pointAt(place);
        if (there != NONE && there != point) {
            return NOT_POSSIBLE;
        }
        history.remember(tree.plan);
        tree.shiftPoint(point, place);
        return tree.leaves();
    }

    public int split(int tile, boolean isOrdered) {
        int depth = Numbers.depthOf(tile);
        if (depth == NONE || depth == DEEPEST) {
            return NO_SUCH;
        }
        Plan plan = tree.plan;
        if (plan.isOrdered(tile) == isOrdered) {
            return NOT_POSSIBLE;
        }
        if (isOrdered && plan.orders >= MOST_ORDERS) {
            return TOO_MANY;
        }
        history.remember(plan);
        if (isOrdered) {
            plan.addOrder(tile);
        } else {
            plan.removeOrder(tile);
        }
        return tree.leaves();
    }

    public int putAll() {
        if (pad.firstFault() != NONE) {
            return BAD_TEXT;
        }
        history.remember(tree.plan);
        int told = pad.readPlaces();
        int added = 0;
        while (added < told && tree.plan.errorOfPointAt(pad.placeTold(added)) == NO_ERROR) {
            tree.addPoint(pad.placeTold(added));
            added++;
        }
        pad.empty();
        return added;
    }

    // ---- what there is; nothing changes

    public int of(int point, int what) {
        Plan plan = tree.plan;
        if (!plan.isPoint(point)) {
            return NO_SUCH;
        }
        int place = plan.placeOf(point);
        switch (what) {
            case 0:
                return Numbers.leastX(place, DEEPEST);
            case 1:
                return Numbers.leastY(place, DEEPEST);
            case 2:
                return tree.leafWith(place);
            case 3:
                return plan.pointsBefore(place);
            default:
                return BAD_VALUE;
        }
    }

    public int leafAt(int x, int y) {
        if (!Numbers.isPlace(x, y)) {
            return NO_SUCH;
        }
        return tree.leafWith(Numbers.placeAt(x, y));
    }

    public int tile(int tile, int what) {
        int depth = Numbers.depthOf(tile);
        if (depth == NONE) {
            return NO_SUCH;
        }
        switch (what) {
            case 0:
                return Numbers.leastX(tile, depth);
            case 1:
                return Numbers.leastY(tile, depth);
            case 2:
                return Numbers.sizeAt(depth);
            case 3:
                return depth;
            case 4:
                return tree.pointsIn(tile);
            case 5:
                return tree.kindOf(tile, depth);
            case 6:
                return tree.plan.isOrdered(tile) ? 1 : 0;
            case 7:
                return tree.isThere(tile, depth) ? Tree.leavesIn(tree, tile, depth) : 0;
            default:
                return BAD_VALUE;
        }
    }

    public int letter(int tile, int place) {
        int depth = Numbers.depthOf(tile);
        if (depth == NONE || place < 0 || place >= depth) {
            return NO_SUCH;
        }
        return Numbers.upTo(tile, depth, place + 1) % QUARTERS;
    }

    public int beside(int tile, int direction, int what) {
        int depth = Numbers.depthOf(tile);
        if (depth == NONE) {
            return NO_SUCH;
        }
        if (direction < 0 || direction >= DIRECTIONS || what < 0 || what > 1) {
            return BAD_VALUE;
        }
        int next = Numbers.nextTo(tile, depth, direction);
        if (next == NONE || what == 0) {
            return next;
        }
        return tree.smallestAround(next, depth);
    }

    public int neighbours(int tile) {
        int depth = Numbers.depthOf(tile);
        if (depth == NONE) {
            return NO_SUCH;
        }
        if (tree.kindOf(tile, depth) != Tree.LEAF) {
            return NOT_POSSIBLE;
        }
        return tree.neighboursOf(tile, depth);
    }

    public int count(int what) {
        switch (what) {
            case 0:
                return tree.plan.points;
            case 1:
                return tree.leaves();
            case 2:
                return tree.tiles();
            case 3:
                return Tree.deepestIn(tree, WHOLE_MAP, 0);
            case 4:
                return Tree.emptyLeavesIn(tree, WHOLE_MAP, 0);
            case 5:
                return tree.plan.orders;
            case 6:
                return Tree.unevennessIn(tree, WHOLE_MAP, 0);
            case 7:
                return tree.plan.full;
            case 8:
                return tree.plan.deep;
            case 9:
                return pad.length;
            case 10:
                return history.states;
            default:
                return BAD_VALUE;
        }
    }

    public int window(int x, int y, int toX, int toY, int what) {
        if (!Numbers.isPlace(x, y) || !Numbers.isPlace(toX, toY)) {
            return NO_SUCH;
        }
        if (toX < x || toY < y) {
            return BAD_VALUE;
        }
        Window window = new Window(x, y, toX, toY);
        switch (what) {
            case 0:
                return tree.plan.pointsInside(window);
            case 1:
                return Tree.leavesMeeting(tree, window, WHOLE_MAP, 0);
            case 2:
                return Tree.tilesMeeting(tree, window, WHOLE_MAP, 0);
            case 3:
                return tree.smallestWith(window);
            default:
                return BAD_VALUE;
        }
    }

    public int nearest(int x, int y, int what) {
        if (!Numbers.isPlace(x, y)) {
            return NO_SUCH;
        }
        if (what != 0 && what != 1) {
            return BAD_VALUE;
        }
        Plan plan = tree.plan;
        int best = NONE;
        int least = NONE;
        for (int point = 0; point < plan.points; point++) {
            int squares = Numbers.squaresBetween(plan.placeOf(point), x, y);
            if (best == NONE || squares < least) {
                best = point;
                least = squares;
            }
        }
        return what == 0 ? best : least;
    }

    // ---- what if; nothing changes

    public int ifPut(int x, int y, int what) {
        if (!Numbers.isPlace(x, y)) {
            return NO_SUCH;
        }
        if (what != 0 && what != 1) {
            return BAD_VALUE;
        }
        int place = Numbers.placeAt(x, y);
        int error = tree.plan.errorOfPointAt(place);
        if (error != NO_ERROR) {
            return error;
        }
        return what == 0 ? tree.leavesIfPut(place) : tree.depthIfPut(place);
    }

    public int leastFull(int leaves) {
        if (leaves < 1 || leaves > MOST_LEAVES) {
            return BAD_VALUE;
        }
        return tree.leastFullFor(leaves);
    }

    // ---- texts

    public int put(long characters) {
        int added = Pad.charactersIn(characters);
        if (added == NONE) {
            return BAD_VALUE;
        }
        if (pad.length + added > MOST_CHARACTERS) {
            return TOO_MANY;
        }
        pad.append(characters, added);
        return pad.length;
    }

    public int wipe() {
        int length = pad.length;
        pad.empty();
        return length;
    }

    public int fault() {
        return pad.firstFault();
    }

    // ---- undo, saving

    public int undo() {
        if (history.states == 0) {
            return NOT_POSSIBLE;
        }
        tree.show(history.takeLatest());
        return history.states;
    }

    public int save(int slot) {
        if (!Slots.isSlot(slot)) {
            return BAD_VALUE;
        }
        slots.fill(slot, tree.plan);
        return tree.plan.points;
    }

    public int restore(int slot) {
        if (!Slots.isSlot(slot)) {
            return BAD_VALUE;
        }
        if (!slots.isFilled(slot)) {
            return NOT_POSSIBLE;
        }
        history.remember(tree.plan);
        tree.show(slots.planIn(slot));
        return tree.plan.points;
    }

    /** What the numbers of tiles tell by themselves, whichever tiles are there. */
    private static final class Numbers {
        private static final int[] STEP_X = {1, 1, 0, -1, -1, -1, 0, 1};
        private static final int[] STEP_Y = {0, 1, 1, 1, 0, -1, -1, -1};

        private Numbers() {
        }

        static boolean isPlace(int x, int y) {
            return x >= 0 && x < MAP_SIZE && y >= 0 && y < MAP_SIZE;
        }

        static int placeAt(int x, int y) {
            int place = FIRST_PLACE;
            for (int bit = 0; bit < DEEPEST; bit++) {
                place += ((x >> bit) & 1) << (2 * bit);
                place += ((y >> bit) & 1) << (2 * bit + 1);
            }
            return place;
        }

        /** NONE if there is no such number. */
        static int depthOf(int tile) {
            for (int depth = 0; depth <= DEEPEST; depth++) {
                if (tile >> (2 * depth) == WHOLE_MAP) {
                    return depth;
                }
            }
            return NONE;
        }

        static int sizeAt(int depth) {
            return MAP_SIZE >> depth;
        }

        /** The tile of a lesser depth around a tile. */
        static int upTo(int tile, int depth, int lesserDepth) {
            return tile >> (2 * (depth - lesserDepth));
        }

        /** The place with the least x and y of a tile. */
        static int leastPlace(int tile, int depth) {
            return tile << (2 * (DEEPEST - depth));
        }

        static int leastX(int tile, int depth) {
            return everySecondBit(leastPlace(tile, depth));
        }

        static int leastY(int tile, int depth) {
            return everySecondBit(leastPlace(tile, depth) >> 1);
        }

        private static int everySecondBit(int bits) {
            int sum = 0;
            for (int bit = 0; bit < DEEPEST; bit++) {
                sum += ((bits >> (2 * bit)) & 1) << bit;
            }
            return sum;
        }

        /** The number of the tile beside a tile, NONE beyond the map. */
        static int nextTo(int tile, int depth, int direction) {
            if (direction < 0 || direction >= DIRECTIONS) {
                return NONE;
            }
            int size = sizeAt(depth);
            int x = leastX(tile, depth) + STEP_X[direction] * size;
            int y = leastY(tile, depth) + STEP_Y[direction] * size;
            return isPlace(x, y) ? upTo(placeAt(x, y), DEEPEST, depth) : NONE;
        }

        static int squaresBetween(int place, int x, int y) {
            int differenceX = leastX(place, DEEPEST) - x;
            int differenceY = leastY(place, DEEPEST) - y;
            return differenceX * differenceX + differenceY * differenceY;
        }
    }

    /** The places from (x, y) to (toX, toY). */
    private static final class Window {
        final int x;
        final int y;
        final int toX;
        final int toY;

        Window(int x, int y, int toX, int toY) {
            this.x = x;
            this.y = y;
            this.toX = toX;
            this.toY = toY;
        }

        boolean meets(int tile, int depth) {
            int leastX = Numbers.leastX(tile, depth);
            int leastY = Numbers.leastY(tile, depth);
            int size = Numbers.sizeAt(depth);
            return leastX <= toX && leastX + size > x && leastY <= toY && leastY + size > y;
        }
    }

    /** What undo, save and restore bring back: points, orders and settings. */
    private static final class Plan {
        private final int[] places = new int[MOST_POINTS];
        private final int[] ordered = new int[MOST_ORDERS];
        int points;
        int orders;
        int full = FIRST_FULL;
        int deep = DEEPEST;

        void copyFrom(Plan other) {
            System.arraycopy(other.places, 0, places, 0, MOST_POINTS);
            System.arraycopy(other.ordered, 0, ordered, 0, MOST_ORDERS);
            points = other.points;
            orders = other.orders;
            full = other.full;
            deep = other.deep;
        }

        boolean isPoint(int point) {
            return point >= 0 && point < points && point < MOST_POINTS;
        }

        int placeOf(int point) {
            return isPoint(point) ? places[point] : NONE;
        }

        int pointAt(int place) {
            for (int point = 0; point < points; point++) {
                if (placeOf(point) == place) {
                    return point;
                }
            }
            return NONE;
        }

        int errorOfPointAt(int place) {
            if (pointAt(place) != NONE) {
                return NOT_POSSIBLE;
            }
            return points >= MOST_POINTS ? TOO_MANY : NO_ERROR;
        }

        int pointsBefore(int place) {
            int sum = 0;
            for (int point = 0; point < points; point++) {
                if (placeOf(point) < place) {
                    sum++;
                }
            }
            return sum;
        }

        int pointsInside(Window window) {
            int sum = 0;
            for (int point = 0; point < points; point++) {
                if (window.meets(placeOf(point), DEEPEST)) {
                    sum++;
                }
            }
            return sum;
        }

        void addPlace(int place) {
            if (points < MOST_POINTS) {
                places[points] = place;
                points++;
            }
        }

        void removePlace(int point) {
            if (isPoint(point)) {
                System.arraycopy(places, point + 1, places, point, points - point - 1);
                points--;
            }
        }

        void changePlace(int point, int place) {
            if (isPoint(point)) {
                places[point] = place;
            }
        }

        boolean isOrdered(int tile) {
            return indexOfOrder(tile) != NONE;
        }

        private int indexOfOrder(int tile) {
            for (int index = 0; index < orders && index < MOST_ORDERS; index++) {
                if (ordered[index] == tile) {
                    return index;
                }
            }
            return NONE;
        }

        void addOrder(int tile) {
            if (orders < MOST_ORDERS) {
                ordered[orders] = tile;
                orders++;
            }
        }

        void removeOrder(int tile) {
            int index = indexOfOrder(tile);
            if (index != NONE) {
                // orders have no order among themselves, so the last one may fill the gap
                ordered[index] = ordered[orders - 1];
                orders--;
            }
        }
    }

    /** The tiles that a plan makes. */
    private static final class Tree {
        static final int NOT_THERE = 0;
        static final int LEAF = 1;
        static final int SPLIT = 2;

        /** By half the direction in which it lies: the two quarters of a tile that reach the side it is seen from. */
        private static final int[] ONE_QUARTER_SEEN = {0, 0, 1, 2};
        private static final int[] OTHER_QUARTER_SEEN = {2, 1, 3, 3};

        final Plan plan = new Plan();

        /** How many points each tile has, by its number; kept so that no question has to go through all points. */
        private final int[] sums = new int[NUMBERS_END];

        // ---- points, and their sums

        private void addToSums(int place, int difference) {
            if (place < FIRST_PLACE || place >= NUMBERS_END) {
                return;
            }
            for (int depth = 0; depth <= DEEPEST; depth++) {
                sums[Numbers.upTo(place, DEEPEST, depth)] += difference;
            }
        }

        private void addAllToSums(int difference) {
            for (int point = 0; point < plan.points; point++) {
                addToSums(plan.placeOf(point), difference);
            }
        }

        void show(Plan other) {
            addAllToSums(-1);
            plan.copyFrom(other);
            addAllToSums(1);
        }

        void addPoint(int place) {
            plan.addPlace(place);
            addToSums(place, 1);
        }

        void removePoint(int point) {
            addToSums(plan.placeOf(point), -1);
            plan.removePlace(point);
        }

        void shiftPoint(int point, int place) {
            addToSums(plan.placeOf(point), -1);
            plan.changePlace(point, place);
            addToSums(place, 1);
        }

        int pointsIn(int tile) {
            return tile >= WHOLE_MAP && tile < NUMBERS_END ? sums[tile] : 0;
        }

        // ---- which tiles are there

        /** Whether a tile is split, if it is there. */
        private boolean wouldBeSplit(int tile, int depth) {
            return depth < plan.deep && (pointsIn(tile) > plan.full || plan.isOrdered(tile));
        }

        boolean isThere(int tile, int depth) {
            for (int above = 0; above < depth; above++) {
                if (!wouldBeSplit(Numbers.upTo(tile, depth, above), above)) {
                    return false;
                }
            }
            return true;
        }

        int kindOf(int tile, int depth) {
            if (!isThere(tile, depth)) {
                return NOT_THERE;
            }
            return wouldBeSplit(tile, depth) ? SPLIT : LEAF;
        }

        private int depthOfLeafWith(int place) {
            int depth = 0;
            while (depth < DEEPEST && wouldBeSplit(Numbers.upTo(place, DEEPEST, depth), depth)) {
                depth++;
            }
            return depth;
        }

        int leafWith(int place) {
            return Numbers.upTo(place, DEEPEST, depthOfLeafWith(place));
        }

        /** The smallest tile there with the least place of a tile, and not smaller than it. */
        int smallestAround(int tile, int depth) {
            int place = Numbers.leastPlace(tile, depth);
            return Numbers.upTo(place, DEEPEST, Math.min(depth, depthOfLeafWith(place)));
        }

        int smallestWith(Window window) {
            int from = Numbers.placeAt(window.x, window.y);
            int to = Numbers.placeAt(window.toX, window.toY);
            int depth = depthOfLeafWith(from);
            while (depth > 0 && Numbers.upTo(from, DEEPEST, depth) != Numbers.upTo(to, DEEPEST, depth)) {
                depth--;
            }
            return Numbers.upTo(from, DEEPEST, depth);
        }

        // ---- sums over the tiles in a tile that is there; methods that call themselves are private and static

        int leaves() {
            return leavesIn(this, WHOLE_MAP, 0);
        }

        int tiles() {
            // each split has put four leaves in the place of one
            int leaves = leaves();
            return leaves + (leaves - 1) / (QUARTERS - 1);
        }

        private static int leavesIn(Tree tree, int tile, int depth) {
            if (depth >= DEEPEST || !tree.wouldBeSplit(tile, depth)) {
                return 1;
            }
            int sum = 0;
            for (int quarter = 0; quarter < QUARTERS; quarter++) {
                sum += leavesIn(tree, QUARTERS * tile + quarter, depth + 1);
            }
            return sum;
        }

        private static int emptyLeavesIn(Tree tree, int tile, int depth) {
            if (depth >= DEEPEST || !tree.wouldBeSplit(tile, depth)) {
                return tree.pointsIn(tile) == 0 ? 1 : 0;
            }
            int sum = 0;
            for (int quarter = 0; quarter < QUARTERS; quarter++) {
                sum += emptyLeavesIn(tree, QUARTERS * tile + quarter, depth + 1);
            }
            return sum;
        }

        private static int deepestIn(Tree tree, int tile, int depth) {
            if (depth >= DEEPEST || !tree.wouldBeSplit(tile, depth)) {
                return depth;
            }
            int deepest = 0;
            for (int quarter = 0; quarter < QUARTERS; quarter++) {
                deepest = Math.max(deepest, deepestIn(tree, QUARTERS * tile + quarter, depth + 1));
            }
            return deepest;
        }

        private static int leavesMeeting(Tree tree, Window window, int tile, int depth) {
            if (!window.meets(tile, depth)) {
                return 0;
            }
            if (depth >= DEEPEST || !tree.wouldBeSplit(tile, depth)) {
                return 1;
            }
            int sum = 0;
            for (int quarter = 0; quarter < QUARTERS; quarter++) {
                sum += leavesMeeting(tree, window, QUARTERS * tile + quarter, depth + 1);
            }
            return sum;
        }

        private static int tilesMeeting(Tree tree, Window window, int tile, int depth) {
            if (!window.meets(tile, depth)) {
                return 0;
            }
            int sum = 1;
            if (depth < DEEPEST && tree.wouldBeSplit(tile, depth)) {
                for (int quarter = 0; quarter < QUARTERS; quarter++) {
                    sum += tilesMeeting(tree, window, QUARTERS * tile + quarter, depth + 1);
                }
            }
            return sum;
        }

        // ---- neighbours

        int neighboursOf(int leaf, int depth) {
            int sum = 0;
            for (int direction = 0; direction < DIRECTIONS; direction += 2) {
                int next = Numbers.nextTo(leaf, depth, direction);
                if (next != NONE) {
                    // a tile that is not there lies in one leaf, and no leaf lies on two sides of another
                    sum += isThere(next, depth) ? leavesSeen(this, next, depth, direction) : 1;
                }
            }
            return sum;
        }

        /** The leaves of a tile that reach the side from which the tile is seen in a direction. */
        private static int leavesSeen(Tree tree, int tile, int depth, int direction) {
            if (depth >= DEEPEST || !tree.wouldBeSplit(tile, depth)) {
                return 1;
            }
            int side = direction / 2;
            if (side < 0 || side >= ONE_QUARTER_SEEN.length || side >= OTHER_QUARTER_SEEN.length) {
                return 0;
            }
            return leavesSeen(tree, QUARTERS * tile + ONE_QUARTER_SEEN[side], depth + 1, direction)
                + leavesSeen(tree, QUARTERS * tile + OTHER_QUARTER_SEEN[side], depth + 1, direction);
        }

        private static int unevennessIn(Tree tree, int tile, int depth) {
            if (depth >= DEEPEST || !tree.wouldBeSplit(tile, depth)) {
                return tree.greatestStepOutOf(tile, depth);
            }
            int greatest = 0;
            for (int quarter = 0; quarter < QUARTERS; quarter++) {
                greatest = Math.max(greatest, unevennessIn(tree, QUARTERS * tile + quarter, depth + 1));
            }
            return greatest;
        }

        /** How much less deep a neighbour of a leaf is; where a neighbour is deeper, it is asked for itself. */
        private int greatestStepOutOf(int leaf, int depth) {
            int greatest = 0;
            for (int direction = 0; direction < DIRECTIONS; direction += 2) {
                int next = Numbers.nextTo(leaf, depth, direction);
                if (next != NONE) {
                    int nextDepth = depthOfLeafWith(Numbers.leastPlace(next, depth));
                    greatest = Math.max(greatest, depth - nextDepth);
                }
            }
            return greatest;
        }

        // ---- what if: each puts back what it changes

        int leavesIfPut(int place) {
            addToSums(place, 1);
            int leaves = leaves();
            addToSums(place, -1);
            return leaves;
        }

        int depthIfPut(int place) {
            addToSums(place, 1);
            int depth = depthOfLeafWith(place);
            addToSums(place, -1);
            return depth;
        }

        int leastFullFor(int mostLeaves) {
            int kept = plan.full;
            int least = NONE;
            for (int full = 1; full <= MOST_FULL && least == NONE; full++) {
                plan.full = full;
                if (leaves() <= mostLeaves) {
                    least = full;
                }
            }
            plan.full = kept;
            return least;
        }
    }

    /** The text of points. */
    private static final class Pad {
        private static final int LEAST_CODE = 33;
        private static final int GREATEST_CODE = 126;
        private static final int CODE_BITS = 8;
        private static final int CODES_OF_A_NUMBER = 8;
        private static final int NO_DIGIT_YET = -1;

        private final int[] codes = new int[MOST_CHARACTERS];
        private final int[] placesTold = new int[MOST_CHARACTERS / FEWEST_CHARACTERS_OF_A_POINT];
        int length;

        private static int codeIn(long characters, int fromTheEnd) {
            return (int) (characters >>> (CODE_BITS * fromTheEnd)) & 255;
        }

        /** How many characters a number gives, NONE if it is not one that gives some. */
        static int charactersIn(long characters) {
            int sum = 0;
            while (sum < CODES_OF_A_NUMBER && codeIn(characters, sum) != 0) {
                int code = codeIn(characters, sum);
                if (code < LEAST_CODE || code > GREATEST_CODE) {
                    return NONE;
                }
                sum++;
            }
            for (int above = sum; above < CODES_OF_A_NUMBER; above++) {
                if (codeIn(characters, above) != 0) {
                    return NONE;
                }
            }
            return sum == 0 ? NONE : sum;
        }

        void append(long characters, int added) {
            for (int fromTheEnd = added - 1; fromTheEnd >= 0 && length < MOST_CHARACTERS; fromTheEnd--) {
                codes[length] = codeIn(characters, fromTheEnd);
                length++;
            }
        }

        void empty() {
            length = 0;
        }

        private int codeAt(int index) {
            return index >= 0 && index < length && index < MOST_CHARACTERS ? codes[index] : 0;
        }

        private static boolean isDigit(int code) {
            return code >= '0' && code <= '9';
        }

        /** The number that a digit makes of the one before it, NO_DIGIT_YET if it cannot stand there. */
        private static int withDigit(int number, int code) {
            if (!isDigit(code) || number == 0) {
                return NO_DIGIT_YET;
            }
            int longer = number == NO_DIGIT_YET ? code - '0' : 10 * number + code - '0';
            return longer < MAP_SIZE ? longer : NO_DIGIT_YET;
        }

        int firstFault() {
            int number = NO_DIGIT_YET;
            boolean isY = false;
            for (int index = 0; index < length; index++) {
                int code = codeAt(index);
                if (number != NO_DIGIT_YET && code == (isY ? ';' : ',')) {
                    number = NO_DIGIT_YET;
                    isY = !isY;
                } else {
                    number = withDigit(number, code);
                    if (number == NO_DIGIT_YET) {
                        return index;
                    }
                }
            }
            return isY && number != NO_DIGIT_YET ? NONE : length;
        }

        /** Reads a text that has no fault, and returns how many places it tells. */
        int readPlaces() {
            int told = 0;
            int x = 0;
            int number = 0;
            for (int index = 0; index <= length; index++) {
                int code = codeAt(index);
                if (isDigit(code)) {
                    number = 10 * number + code - '0';
                } else if (code == ',') {
                    x = number;
                    number = 0;
                } else if (told < placesTold.length) {
                    placesTold[told] = Numbers.placeAt(x, number);
                    told++;
                    number = 0;
                }
            }
            return told;
        }

        int placeTold(int index) {
            return index >= 0 && index < placesTold.length ? placesTold[index] : NONE;
        }
    }

    /** The states before the latest changes, the oldest first. */
    private static final class History {
        private final Plan[] plans = new Plan[MOST_STATES];
        int states;

        History() {
            for (int state = 0; state < MOST_STATES; state++) {
                plans[state] = new Plan();
            }
        }

        void remember(Plan plan) {
            if (states >= MOST_STATES) {
                dropOldest();
            }
            plans[states].copyFrom(plan);
            states++;
        }

        private void dropOldest() {
            Plan oldest = plans[0];
            for (int state = 1; state < MOST_STATES; state++) {
                plans[state - 1] = plans[state];
            }
            plans[MOST_STATES - 1] = oldest;
            states = MOST_STATES - 1;
        }

        /** The latest state, which is none of the history's then; asked only if there is one. */
        Plan takeLatest() {
            states = Math.max(0, states - 1);
            return plans[states];
        }
    }

    /** What was saved. */
    private static final class Slots {
        private final Plan[] plans = new Plan[SLOTS];
        private final boolean[] filled = new boolean[SLOTS];

        Slots() {
            for (int slot = 0; slot < SLOTS; slot++) {
                plans[slot] = new Plan();
            }
        }

        static boolean isSlot(int slot) {
            return slot >= 0 && slot < SLOTS;
        }

        boolean isFilled(int slot) {
            return isSlot(slot) && filled[slot];
        }

        void fill(int slot, Plan plan) {
            if (isSlot(slot)) {
                plans[slot].copyFrom(plan);
                filled[slot] = true;
            }
        }

        Plan planIn(int slot) {
            return plans[isSlot(slot) ? slot : 0];
        }
    }
}
