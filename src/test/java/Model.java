import java.util.ArrayList;
import java.util.HashSet;
import java.util.List;
import java.util.Set;
import java.util.TreeSet;
import java.util.regex.Pattern;

/**
 * The document once more, as plainly as can be and without regard to speed: tiles are squares with paths as texts,
 * everything is searched for anew at each call. The program is compared with it.
 */
final class Model {
    static final int NO_SUCH = -1, BAD_VALUE = -2, BAD_TEXT = -3, TOO_MANY = -4, NOT_POSSIBLE = -5, NONE = -6;
    private static final String NUMBER = "(?:[0-9]|[1-5][0-9]|6[0-3])";
    private static final String POINT = NUMBER + "," + NUMBER;
    private static final Pattern BEGINNING = Pattern.compile(
        "(?:" + POINT + ";)*(?:|" + NUMBER + "|" + NUMBER + ",|" + POINT + ")");
    private static final Pattern TEXT = Pattern.compile(POINT + "(?:;" + POINT + ")*");
    private static final int[][] STEPS = {{1, 0}, {1, 1}, {0, 1}, {-1, 1}, {-1, 0}, {-1, -1}, {0, -1}, {1, -1}};

    /** A square of places, with the letters a to d on the way to it. */
    record Tile(String path, int x, int y, int size) {
        static Tile whole() {
            return new Tile("", 0, 0, 64);
        }

        List<Tile> quarters() {
            int half = size / 2;
            return List.of(new Tile(path + "a", x, y, half), new Tile(path + "b", x + half, y, half),
                new Tile(path + "c", x, y + half, half), new Tile(path + "d", x + half, y + half, half));
        }

        int number() {
            int number = 1;
            for (char letter : path.toCharArray()) {
                number = 4 * number + (letter - 'a');
            }
            return number;
        }

        int depth() {
            return path.length();
        }

        boolean has(int px, int py) {
            return px >= x && px < x + size && py >= y && py < y + size;
        }

        boolean meets(int fromX, int fromY, int toX, int toY) {
            for (int px = fromX; px <= toX; px++) {
                for (int py = fromY; py <= toY; py++) {
                    if (has(px, py)) {
                        return true;
                    }
                }
            }
            return false;
        }
    }

    static final List<Tile> ALL = new ArrayList<>();

    static {
        ALL.add(Tile.whole());
        for (int i = 0; i < ALL.size(); i++) {
            if (ALL.get(i).depth() < 6) {
                ALL.addAll(ALL.get(i).quarters());
            }
        }
    }

    private static final Tile[] BY_NUMBER = new Tile[8192];

    static {
        for (Tile tile : ALL) {
            BY_NUMBER[tile.number()] = tile;
        }
    }

    static Tile tileOf(int number) {
        return number < 0 || number >= BY_NUMBER.length ? null : BY_NUMBER[number];
    }

    /** What is saved. */
    static final class State {
        final List<int[]> points = new ArrayList<>();
        final Set<Integer> orders = new TreeSet<>();
        int full = 2;
        int deep = 6;

        State copy() {
            State copy = new State();
            for (int[] point : points) {
                copy.points.add(point.clone());
            }
            copy.orders.addAll(orders);
            copy.full = full;
            copy.deep = deep;
            return copy;
        }

        int pointsIn(Tile tile) {
            int sum = 0;
            for (int[] point : points) {
                if (tile.has(point[0], point[1])) {
                    sum++;
                }
            }
            return sum;
        }

        boolean splits(Tile tile) {
            return tile.depth() < deep && (pointsIn(tile) > full || orders.contains(tile.number()));
        }

        List<Tile> there() {
            List<Tile> there = new ArrayList<>();
            there.add(Tile.whole());
            for (int i = 0; i < there.size(); i++) {
                if (splits(there.get(i))) {
                    there.addAll(there.get(i).quarters());
                }
            }
            return there;
        }

        List<Tile> leaves() {
            List<Tile> leaves = new ArrayList<>();
            for (Tile tile : there()) {
                if (!splits(tile)) {
                    leaves.add(tile);
                }
            }
            return leaves;
        }

        Tile leafAt(int x, int y) {
            for (Tile leaf : leaves()) {
                if (leaf.has(x, y)) {
                    return leaf;
                }
            }
            throw new IllegalStateException("each place has a leaf");
        }

        Tile[][] leafOfEachPlace() {
            Tile[][] leaf = new Tile[64][64];
            for (Tile each : leaves()) {
                for (int x = each.x(); x < each.x() + each.size(); x++) {
                    for (int y = each.y(); y < each.y() + each.size(); y++) {
                        leaf[x][y] = each;
                    }
                }
            }
            return leaf;
        }

        int unevenness() {
            Tile[][] leaf = leafOfEachPlace();
            int greatest = 0;
            for (int x = 0; x < 64; x++) {
                for (int y = 0; y < 64; y++) {
                    if (x < 63) {
                        greatest = Math.max(greatest, Math.abs(leaf[x][y].depth() - leaf[x + 1][y].depth()));
                    }
                    if (y < 63) {
                        greatest = Math.max(greatest, Math.abs(leaf[x][y].depth() - leaf[x][y + 1].depth()));
                    }
                }
            }
            return greatest;
        }

        int neighbours(Tile tile) {
            Tile[][] leaf = leafOfEachPlace();
            Set<Integer> found = new HashSet<>();
            for (int x = tile.x(); x < tile.x() + tile.size(); x++) {
                for (int y = tile.y(); y < tile.y() + tile.size(); y++) {
                    for (int direction = 0; direction < 8; direction += 2) {
                        int toX = x + STEPS[direction][0];
                        int toY = y + STEPS[direction][1];
                        if (isPlace(toX, toY) && !leaf[toX][toY].equals(tile)) {
                            found.add(leaf[toX][toY].number());
                        }
                    }
                }
            }
            return found.size();
        }

        int indexAt(int x, int y) {
            for (int i = 0; i < points.size(); i++) {
                if (points.get(i)[0] == x && points.get(i)[1] == y) {
                    return i;
                }
            }
            return -1;
        }

        int point(int x, int y) {
            if (!isPlace(x, y)) {
                return NO_SUCH;
            }
            if (indexAt(x, y) >= 0) {
                return NOT_POSSIBLE;
            }
            if (points.size() == 50) {
                return TOO_MANY;
            }
            points.add(new int[] {x, y});
            return leaves().size();
        }
    }

    State now = new State();
    String pad = "";
    final List<State> history = new ArrayList<>();
    final State[] slots = new State[2];

    static boolean isPlace(int x, int y) {
        return x >= 0 && x <= 63 && y >= 0 && y <= 63;
    }

    private boolean isPoint(int point) {
        return point >= 0 && point < now.points.size();
    }

    private void record(State before) {
        history.add(before);
        if (history.size() > 6) {
            history.remove(0);
        }
    }

    int set(int setting, int value) {
        if (setting < 0 || setting > 1 || value < 1 || value > (setting == 0 ? 8 : 6)) {
            return BAD_VALUE;
        }
        record(now.copy());
        int previous = setting == 0 ? now.full : now.deep;
        if (setting == 0) {
            now.full = value;
        } else {
            now.deep = value;
        }
        return previous;
    }

    int point(int x, int y) {
        State before = now.copy();
        int answer = now.point(x, y);
        if (answer >= 0) {
            record(before);
        }
        return answer;
    }

    int take(int point) {
        if (!isPoint(point)) {
            return NO_SUCH;
        }
        record(now.copy());
        now.points.remove(point);
        return now.leaves().size();
    }

    int move(int point, int x, int y) {
        if (!isPoint(point) || !isPlace(x, y)) {
            return NO_SUCH;
        }
        int there = now.indexAt(x, y);
        if (there >= 0 && there != point) {
            return NOT_POSSIBLE;
        }
        record(now.copy());
        now.points.set(point, new int[] {x, y});
        return now.leaves().size();
    }

    int split(int number, boolean isOrdered) {
        Tile tile = tileOf(number);
        if (tile == null || tile.depth() == 6) {
            return NO_SUCH;
        }
        if (now.orders.contains(number) == isOrdered) {
            return NOT_POSSIBLE;
        }
        if (isOrdered && now.orders.size() == 12) {
            return TOO_MANY;
        }
        record(now.copy());
        if (isOrdered) {
            now.orders.add(number);
        } else {
            now.orders.remove(number);
        }
        return now.leaves().size();
    }

    int putAll() {
        if (fault() != NONE) {
            return BAD_TEXT;
        }
        record(now.copy());
        int sum = 0;
        for (String each : pad.split(";")) {
            String[] numbers = each.split(",");
            if (now.point(Integer.parseInt(numbers[0]), Integer.parseInt(numbers[1])) < 0) {
                break;
            }
            sum++;
        }
        pad = "";
        return sum;
    }

    private static String pathOf(int[] point) {
        for (Tile tile : ALL) {
            if (tile.depth() == 6 && tile.has(point[0], point[1])) {
                return tile.path();
            }
        }
        throw new IllegalStateException("each place has a path");
    }

    int of(int point, int what) {
        if (!isPoint(point)) {
            return NO_SUCH;
        }
        int[] own = now.points.get(point);
        switch (what) {
            case 0: return own[0];
            case 1: return own[1];
            case 2: return now.leafAt(own[0], own[1]).number();
            case 3: {
                List<String> paths = new ArrayList<>();
                for (int[] each : now.points) {
                    paths.add(pathOf(each));
                }
                paths.sort(null);
                return paths.indexOf(pathOf(own));
            }
            default: return BAD_VALUE;
        }
    }

    int leafAt(int x, int y) {
        return isPlace(x, y) ? now.leafAt(x, y).number() : NO_SUCH;
    }

    int tile(int number, int what) {
        Tile tile = tileOf(number);
        if (tile == null) {
            return NO_SUCH;
        }
        switch (what) {
            case 0: return tile.x();
            case 1: return tile.y();
            case 2: return tile.size();
            case 3: return tile.depth();
            case 4: return now.pointsIn(tile);
            case 5: return !now.there().contains(tile) ? 0 : now.leaves().contains(tile) ? 1 : 2;
            case 6: return now.orders.contains(number) ? 1 : 0;
            case 7: {
                int sum = 0;
                for (Tile leaf : now.leaves()) {
                    if (leaf.path().startsWith(tile.path())) {
                        sum++;
                    }
                }
                return sum;
            }
            default: return BAD_VALUE;
        }
    }

    int letter(int number, int place) {
        Tile tile = tileOf(number);
        if (tile == null || place < 0 || place >= tile.depth()) {
            return NO_SUCH;
        }
        return tile.path().charAt(place) - 'a';
    }

    int beside(int number, int direction, int what) {
        Tile tile = tileOf(number);
        if (tile == null) {
            return NO_SUCH;
        }
        if (direction < 0 || direction > 7 || what < 0 || what > 1) {
            return BAD_VALUE;
        }
        int x = tile.x() + STEPS[direction][0] * tile.size();
        int y = tile.y() + STEPS[direction][1] * tile.size();
        if (!isPlace(x, y)) {
            return NONE;
        }
        Tile found = null;
        for (Tile each : what == 0 ? ALL : now.there()) {
            boolean isLargeEnough = what == 0 ? each.size() == tile.size() : each.size() >= tile.size();
            if (isLargeEnough && each.has(x, y) && (found == null || each.size() < found.size())) {
                found = each;
            }
        }
        return found.number();
    }

    int neighbours(int number) {
        Tile tile = tileOf(number);
        if (tile == null) {
            return NO_SUCH;
        }
        return now.leaves().contains(tile) ? now.neighbours(tile) : NOT_POSSIBLE;
    }

    int count(int what) {
        switch (what) {
            case 0: return now.points.size();
            case 1: return now.leaves().size();
            case 2: return now.there().size();
            case 3: {
                int deepest = 0;
                for (Tile leaf : now.leaves()) {
                    deepest = Math.max(deepest, leaf.depth());
                }
                return deepest;
            }
            case 4: {
                int sum = 0;
                for (Tile leaf : now.leaves()) {
                    sum += now.pointsIn(leaf) == 0 ? 1 : 0;
                }
                return sum;
            }
            case 5: return now.orders.size();
            case 6: return now.unevenness();
            case 7: return now.full;
            case 8: return now.deep;
            case 9: return pad.length();
            case 10: return history.size();
            default: return BAD_VALUE;
        }
    }

    int window(int x, int y, int toX, int toY, int what) {
        if (!isPlace(x, y) || !isPlace(toX, toY)) {
            return NO_SUCH;
        }
        if (toX < x || toY < y || what < 0 || what > 3) {
            return BAD_VALUE;
        }
        int sum = 0;
        if (what == 0) {
            for (int[] point : now.points) {
                sum += point[0] >= x && point[0] <= toX && point[1] >= y && point[1] <= toY ? 1 : 0;
            }
            return sum;
        }
        if (what == 3) {
            Tile smallest = Tile.whole();
            for (Tile each : now.there()) {
                if (each.has(x, y) && each.has(toX, toY) && each.size() < smallest.size()) {
                    smallest = each;
                }
            }
            return smallest.number();
        }
        for (Tile each : what == 1 ? now.leaves() : now.there()) {
            sum += each.meets(x, y, toX, toY) ? 1 : 0;
        }
        return sum;
    }

    int nearest(int x, int y, int what) {
        if (!isPlace(x, y)) {
            return NO_SUCH;
        }
        if (what < 0 || what > 1) {
            return BAD_VALUE;
        }
        for (int squares = 0; squares <= 2 * 63 * 63; squares++) {
            for (int i = 0; i < now.points.size(); i++) {
                int[] point = now.points.get(i);
                if ((point[0] - x) * (point[0] - x) + (point[1] - y) * (point[1] - y) == squares) {
                    return what == 0 ? i : squares;
                }
            }
        }
        return NONE;
    }

    int ifPut(int x, int y, int what) {
        if (!isPlace(x, y)) {
            return NO_SUCH;
        }
        if (what < 0 || what > 1) {
            return BAD_VALUE;
        }
        State then = now.copy();
        int leaves = then.point(x, y);
        return leaves < 0 || what == 0 ? leaves : then.leafAt(x, y).depth();
    }

    int leastFull(int leaves) {
        if (leaves < 1 || leaves > 4096) {
            return BAD_VALUE;
        }
        for (int full = 1; full <= 8; full++) {
            State then = now.copy();
            then.full = full;
            if (then.leaves().size() <= leaves) {
                return full;
            }
        }
        return NONE;
    }

    int put(long characters) {
        StringBuilder told = new StringBuilder();
        boolean hasEnded = false;
        for (int i = 0; i < 8; i++) {
            int code = (int) (characters >>> (8 * i) & 255);
            if (code == 0) {
                hasEnded = true;
            } else if (hasEnded || code < 33 || code > 126) {
                return BAD_VALUE;
            } else {
                told.insert(0, (char) code);
            }
        }
        if (told.length() == 0) {
            return BAD_VALUE;
        }
        if (pad.length() + told.length() > 80) {
            return TOO_MANY;
        }
        pad += told;
        return pad.length();
    }

    int wipe() {
        int length = pad.length();
        pad = "";
        return length;
    }

    int fault() {
        for (int i = 0; i < pad.length(); i++) {
            if (!BEGINNING.matcher(pad.substring(0, i + 1)).matches()) {
                return i;
            }
        }
        return TEXT.matcher(pad).matches() ? NONE : pad.length();
    }

    int undo() {
        if (history.isEmpty()) {
            return NOT_POSSIBLE;
        }
        now = history.remove(history.size() - 1);
        return history.size();
    }

    int save(int slot) {
        if (slot < 0 || slot > 1) {
            return BAD_VALUE;
        }
        slots[slot] = now.copy();
        return now.points.size();
    }

    int restore(int slot) {
        if (slot < 0 || slot > 1) {
            return BAD_VALUE;
        }
        if (slots[slot] == null) {
            return NOT_POSSIBLE;
        }
        record(now.copy());
        now = slots[slot].copy();
        return now.points.size();
    }
}
