/** Long runs of calls, each answer compared with that of the model. The same runs each time. */
public final class ModelTest extends Given {
    private static final int[] ODD_NUMBERS =
        {0, -1, 2, 3, 8, 15, 32, 63, 128, 512, 2048, 4095, 8192, 1 << 20, GREATEST, LEAST};

    /** Putting a text of three points in three parts, and asking for its fault. */
    private static final int MOST_CALLS_OF_A_CHANGE = 4;

    private long seed;
    private final QuarterTiles program = new QuarterTiles();
    private final Model model = new Model();
    private final int run;
    private int calls = 0;
    private int spread = 64;

    private ModelTest(int run) {
        this.run = run;
        seed = 77L * run + 5;
    }

    public static void main(String[] args) {
        int runs = args.length > 0 ? Integer.parseInt(args[0]) : 150;
        for (int run = 0; run < runs && Due.wrongAnswers() < 20; run++) {
            new ModelTest(run).go();
        }
        Due.end("ModelTest");
    }

    private int below(int end) {
        seed = seed * 6364136223846793005L + 1442695040888963407L;
        return (int) ((seed >>> 33) % end);
    }

    private void due(String call, long got, long want) {
        calls++;
        Due.is("run " + run + ", call " + calls + ": " + call, got, want);
    }

    private void go() {
        spread = new int[] {64, 16, 4, 64}[run % 4];
        begin();
        while (calls < CALLS_OF_AN_OBJECT) {
            if (calls + MOST_CALLS_OF_A_CHANGE <= CALLS_OF_AN_OBJECT && below(2) == 0) {
                change();
            } else {
                ask();
            }
        }
    }

    /** Some runs begin with what random calls seldom bring about. */
    private void begin() {
        if (run % 5 == 1) {
            set(0, 1);
            for (int i = 0; i < 52; i++) {
                point(coordinate(), coordinate());
            }
        }
        if (run % 5 == 2) {
            for (int i = 0; i < 14; i++) {
                int x = below(64);
                int y = below(64);
                split(model.leafAt(x, y), true);
            }
        }
    }

    private int coordinate() {
        int chance = below(40);
        if (chance == 0) {
            return NO_COORDINATES[below(NO_COORDINATES.length)];
        }
        if (chance < 4) {
            return new int[] {0, 63, 31, 32}[below(4)];
        }
        return spread == 64 || chance < 8 ? below(64) : 20 + below(spread);
    }

    private int what(int end) {
        int chance = below(30);
        return chance == 0 ? -1 : chance == 1 ? end : chance == 2 ? LEAST : below(end);
    }

    private int aPoint() {
        return below(20) == 0 ? -1 : below(model.count(0) + 1);
    }

    private int number() {
        int chance = below(12);
        if (chance == 0) {
            return ODD_NUMBERS[below(ODD_NUMBERS.length)];
        }
        if (chance < 4) {
            return Model.ALL.get(below(Model.ALL.size())).number();
        }
        if (chance == 4) {
            return Model.ALL.get(below(85)).number();
        }
        int leaf = model.now.leafAt(below(64), spread == 64 ? below(64) : 20 + below(spread)).number();
        return chance < 8 ? leaf : chance < 10 ? Math.max(1, leaf >> 2) : leaf << 2;
    }

    private void set(int setting, int value) {
        due("set(" + setting + ", " + value + ")", program.set(setting, value), model.set(setting, value));
    }

    private void point(int x, int y) {
        due("point(" + x + ", " + y + ")", program.point(x, y), model.point(x, y));
    }

    private void split(int tile, boolean isOrdered) {
        due("split(" + tile + ", " + isOrdered + ")", program.split(tile, isOrdered), model.split(tile, isOrdered));
    }

    private void change() {
        int chance = below(24);
        if (chance < 2) {
            int setting = below(20) == 0 ? 2 * below(2) - 1 + below(2) : below(2);
            set(setting, below(10));
        } else if (chance < 9) {
            point(coordinate(), coordinate());
        } else if (chance < 11) {
            int point = aPoint();
            due("take(" + point + ")", program.take(point), model.take(point));
        } else if (chance < 13) {
            int point = aPoint();
            int x = coordinate();
            int y = coordinate();
            due("move(" + point + ", " + x + ", " + y + ")", program.move(point, x, y), model.move(point, x, y));
        } else if (chance < 16) {
            split(number(), below(3) > 0);
        } else if (chance < 20) {
            text();
        } else if (chance < 22) {
            due("undo()", program.undo(), model.undo());
        } else {
            int slot = what(2);
            if (below(2) == 0) {
                due("save(" + slot + ")", program.save(slot), model.save(slot));
            } else {
                due("restore(" + slot + ")", program.restore(slot), model.restore(slot));
            }
        }
    }

    private void text() {
        int chance = below(8);
        if (chance == 0) {
            due("wipe()", program.wipe(), model.wipe());
        } else if (chance < 3) {
            due("putAll()", program.putAll(), model.putAll());
        } else if (chance == 3) {
            put(((long) below(Integer.MAX_VALUE) << below(33)) ^ below(Integer.MAX_VALUE));
        } else {
            StringBuilder more = new StringBuilder(model.pad.isEmpty() ? "" : ";");
            int points = 1 + below(3);
            for (int i = 0; i < points; i++) {
                more.append(i == 0 ? "" : ";").append(number63()).append(",").append(number63());
            }
            if (below(6) == 0) {
                more.setCharAt(below(more.length()), "0,;6 9a~!"  .charAt(below(9)));
            }
            for (int from = 0; from < more.length(); from += 8) {
                put(packed(more.substring(from, Math.min(from + 8, more.length()))));
            }
        }
        due("fault()", program.fault(), model.fault());
    }

    private int number63() {
        return below(40) == 0 ? 60 + below(10) : spread == 64 ? below(64) : 20 + below(spread);
    }

    private void put(long characters) {
        due("put(" + characters + ")", program.put(characters), model.put(characters));
    }

    private void ask() {
        int x = coordinate();
        int y = coordinate();
        int tile = number();
        switch (below(12)) {
            case 0: {
                int point = aPoint();
                int what = what(4);
                due("of(" + point + ", " + what + ")", program.of(point, what), model.of(point, what));
                break;
            }
            case 1:
                due("leafAt(" + x + ", " + y + ")", program.leafAt(x, y), model.leafAt(x, y));
                break;
            case 2: {
                int what = what(8);
                due("tile(" + tile + ", " + what + ")", program.tile(tile, what), model.tile(tile, what));
                break;
            }
            case 3: {
                int place = what(7);
                due("letter(" + tile + ", " + place + ")", program.letter(tile, place), model.letter(tile, place));
                break;
            }
            case 4: {
                int direction = what(8);
                int what = what(2);
                due("beside(" + tile + ", " + direction + ", " + what + ")",
                    program.beside(tile, direction, what), model.beside(tile, direction, what));
                break;
            }
            case 5:
                due("neighbours(" + tile + ")", program.neighbours(tile), model.neighbours(tile));
                break;
            case 6:
            case 7: {
                int what = what(11);
                due("count(" + what + ")", program.count(what), model.count(what));
                break;
            }
            case 8:
                window(x, y);
                break;
            case 9: {
                int what = what(2);
                due("nearest(" + x + ", " + y + ", " + what + ")", program.nearest(x, y, what), model.nearest(x, y, what));
                break;
            }
            case 10: {
                int what = what(2);
                due("ifPut(" + x + ", " + y + ", " + what + ")", program.ifPut(x, y, what), model.ifPut(x, y, what));
                break;
            }
            default: {
                int leaves = below(10) == 0 ? new int[] {0, -1, 1, 4096, 4097}[below(5)] : 1 + below(80);
                due("leastFull(" + leaves + ")", program.leastFull(leaves), model.leastFull(leaves));
            }
        }
    }

    private void window(int x, int y) {
        int toX = below(3) == 0 ? coordinate() : Math.min(63, x < 64 ? x + below(9) : x);
        int toY = below(3) == 0 ? coordinate() : Math.min(63, y < 64 ? y + below(9) : y);
        int what = what(4);
        due("window(" + x + ", " + y + ", " + toX + ", " + toY + ", " + what + ")",
            program.window(x, y, toX, toY, what), model.window(x, y, toX, toY, what));
    }
}
