/**
 * All that can be seen of an object, as a text: what there is, each state of its history, its slots, its pad. Seeing
 * uses the object up. An object with 50 points, a full history and a full pad is seen by some 380 calls.
 */
final class Sight {
    /** The tiles that the tests order before they look, and some more. */
    private static final int[] ASKED = {1, 4, 5, 6, 7, 16, 31, 64, 127, 256, 511, 1024, 1365, 2046, 2047};
    private static final int SLOTS = 2;

    private final QuarterTiles tiles;
    private final StringBuilder seen = new StringBuilder();

    private Sight(QuarterTiles tiles) {
        this.tiles = tiles;
    }

    static String of(QuarterTiles tiles) {
        Sight sight = new Sight(tiles);
        sight.present();
        sight.history();
        sight.slots();
        sight.pad();
        return sight.seen.toString();
    }

    private void add(int number) {
        seen.append(number).append(' ');
    }

    private void counts() {
        for (int what = 0; what <= 10; what++) {
            add(tiles.count(what));
        }
    }

    private void point(int point) {
        add(tiles.of(point, 0));
        add(tiles.of(point, 1));
    }

    private void points() {
        for (int point = tiles.count(0); point >= 0; point--) {
            point(point);
        }
    }

    private void present() {
        counts();
        points();
        for (int tile : ASKED) {
            add(tiles.tile(tile, 6));
        }
        add(tiles.fault());
        seen.append('\n');
    }

    /** The points of a state are told by its first and last one, lest there be too many calls. */
    private void history() {
        for (int left = tiles.count(10); left >= 0; left--) {
            add(tiles.undo());
            counts();
            point(0);
            point(tiles.count(0) - 1);
            seen.append('\n');
        }
    }

    private void slots() {
        for (int slot = 0; slot < SLOTS; slot++) {
            add(tiles.restore(slot));
            present();
        }
    }

    private void pad() {
        for (int left = tiles.count(0); left > 0; left--) {
            tiles.take(0);
        }
        add(tiles.putAll());
        points();
        add(tiles.wipe());
    }
}
