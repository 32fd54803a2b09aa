/** The boundary cases of promises 19 to 24, texts and states, sentence by sentence. Refused calls are in RefusalTest. */
public final class StatesEdgeTest extends Given {
    private StatesEdgeTest() {
    }

    public static void main(String[] args) {
        putOneToEightCharacters();
        putCodes();
        putBitsAboveTheEnd();
        putUpToEighty();
        putInParts();
        wipeOfNoneAndOfEighty();
        faultOfNone();
        padIsNoChange();
        historyOfSix();
        historyFilledAgain();
        undoOfEachKindOfChange();
        whatRecordsNothing();
        changesWithoutDifference();
        undoLeavesPadAndSlots();
        saveOfNoneAndOfFifty();
        saveOverwrites();
        saveIsNoChange();
        saveKeepsPadAndHistoryOut();
        restoreOfNothing();
        restoreKeepsTheSlot();
        restoreIsAChange();
        restoreOfEverything();
        Due.end("StatesEdgeTest");
    }

    // ---- promise 19

    /** "characters: 1 to 8 characters"; "its lowest 8 bits are the last character, the next 8 bits the one before". */
    private static void putOneToEightCharacters() {
        String text = "10,20;30,40";
        for (int length = 1; length <= 8; length++) {
            QuarterTiles tiles = new QuarterTiles();
            Due.is("put of " + length, tiles.put(packed(text.substring(0, length))), length);
            Due.is("length then", tiles.count(9), length);
            text(tiles, text.substring(length));
            Due.is("the whole text", tiles.count(9), 11);
            Due.is("putAll of it", tiles.putAll(), 2);
            isAt("the first point", tiles, 0, 10, 20);
            isAt("the second point", tiles, 1, 30, 40);
        }
        Due.is("put of none", new QuarterTiles().put(0), BAD_VALUE);
    }

    /** "BAD_VALUE if .. a code is not 33 to 126", at each of the eight places. */
    private static void putCodes() {
        for (int place = 0; place < 8; place++) {
            for (int code = 1; code <= 255; code++) {
                long characters = 0x3131313131313131L >>> 8 * (7 - place) & ~(255L << 8 * place) | (long) code << 8 * place;
                Due.is("put of the code " + code + " at " + place, new QuarterTiles().put(characters),
                    code >= 33 && code <= 126 ? place + 1 : BAD_VALUE);
                long full = 0x3131313131313131L & ~(255L << 8 * place) | (long) code << 8 * place;
                Due.is("put of the code " + code + " at " + place + " of 8", new QuarterTiles().put(full),
                    code >= 33 && code <= 126 ? 8 : BAD_VALUE);
            }
        }
    }

    /** "8 bits that are 0 mean that there are no more characters, and everything above them has to be 0, too". */
    private static void putBitsAboveTheEnd() {
        for (int length = 0; length <= 6; length++) {
            long characters = packed("1,2;3,4".substring(0, length));
            for (int bit = 8 * (length + 1); bit < 64; bit++) {
                Due.is("put of " + length + " characters and bit " + bit,
                    new QuarterTiles().put(characters | 1L << bit), BAD_VALUE);
            }
            Due.is("put of " + length + " characters", new QuarterTiles().put(characters), length == 0 ? BAD_VALUE : length);
        }
    }

    /** "TOO_MANY if the pad would be longer than 80". */
    private static void putUpToEighty() {
        for (int added = 1; added <= 8; added++) {
            long characters = packed("~!aZ09;,".substring(0, added));
            QuarterTiles tiles = withText(EIGHTY.substring(0, 80 - added));
            Due.is("put of " + added + " to 80", tiles.put(characters), 80);
            Due.is("put of one more", tiles.put('1'), TOO_MANY);
            Due.is("put of none more", tiles.put(0), BAD_VALUE);
            QuarterTiles longer = withText(EIGHTY.substring(0, 81 - added));
            Due.is("put of " + added + " to 81", longer.put(characters), TOO_MANY);
            Due.is("length then", longer.count(9), 81 - added);
            if (added > 1) {
                Due.is("put of one less to 80", longer.put(characters >>> 8), 80);
            }
        }
        QuarterTiles again = withText(EIGHTY);
        again.wipe();
        Due.is("put after a wipe", again.put('1'), 1);
        again.wipe();
        text(again, EIGHTY);
        again.putAll();
        Due.is("put after putAll", again.put('1'), 1);
    }

    /** "Appends": what is put in any parts is one text. */
    private static void putInParts() {
        for (int part = 1; part <= 8; part++) {
            QuarterTiles tiles = new QuarterTiles();
            for (int from = 0; from < 80; from += part) {
                int to = Math.min(80, from + part);
                Due.is("put to " + to, tiles.put(packed(EIGHTY.substring(from, to))), to);
            }
            Due.is("fault of what was put in parts", tiles.fault(), NONE);
            Due.is("putAll of what was put in parts", tiles.putAll(), 20);
            isAt("the last point", tiles, 19, 9, 6);
        }
    }

    // ---- promises 20 and 21

    /** "Empties the pad, and returns the length that it had." */
    private static void wipeOfNoneAndOfEighty() {
        QuarterTiles tiles = new QuarterTiles();
        Due.is("wipe of none", tiles.wipe(), 0);
        text(tiles, EIGHTY);
        Due.is("wipe of 80", tiles.wipe(), 80);
        Due.is("wipe again", tiles.wipe(), 0);
        Due.is("length then", tiles.count(9), 0);
        Due.is("fault then", tiles.fault(), 0);
        Due.is("putAll then", tiles.putAll(), BAD_TEXT);
        tiles.put('1');
        Due.is("wipe of one", tiles.wipe(), 1);
        text(tiles, "7,8");
        Due.is("nothing of the older texts is left", tiles.putAll(), 1);
        Due.is("wipe after putAll", tiles.wipe(), 0);
    }

    /** "Returns the fault of the pad, NONE if there is none." */
    private static void faultOfNone() {
        QuarterTiles tiles = new QuarterTiles();
        String text = "0,63;6,5";
        int[] due = {1, 2, NONE, NONE, 5, 6, 7, NONE};
        for (int i = 0; i < due.length; i++) {
            tiles.put(text.charAt(i));
            Due.is("fault of " + text.substring(0, i + 1), tiles.fault(), due[i]);
        }
        tiles.put(',');
        Due.is("fault of one character more", tiles.fault(), 8);
        tiles.put('1');
        Due.is("the first fault stays", tiles.fault(), 8);
        Due.is("a point that is there already is no fault", withText("1,1;1,1").fault(), NONE);
    }

    /** "each method that is a change, and returns no error, records": put() and wipe() are none, putAll() is one. */
    private static void padIsNoChange() {
        QuarterTiles tiles = new QuarterTiles();
        text(tiles, EIGHTY);
        tiles.wipe();
        tiles.fault();
        Due.is("undo after put and wipe", tiles.undo(), NOT_POSSIBLE);
        tiles.point(1, 1);
        text(tiles, "1,2");
        Due.is("undo leaves the pad", tiles.undo(), 0);
        Due.is("length of the pad", tiles.wipe(), 3);
        Due.is("undo does not bring back what was wiped", tiles.undo(), NOT_POSSIBLE);
        Due.is("length of the pad then", tiles.count(9), 0);
    }

    // ---- promise 22

    /** "A history of at most 6 states is kept: .. when one more is recorded, the oldest one is dropped." */
    private static void historyOfSix() {
        for (int changes = 0; changes <= 14; changes++) {
            QuarterTiles tiles = new QuarterTiles();
            for (int i = 0; i < changes; i++) {
                Due.is("changes ahead of " + i, tiles.count(10), Math.min(6, i));
                tiles.point(i, 2 * i);
            }
            int kept = Math.min(6, changes);
            Due.is("changes that can be undone of " + changes, tiles.count(10), kept);
            for (int left = kept - 1; left >= 0; left--) {
                Due.is("undo of " + changes, tiles.undo(), left);
                Due.is("points then", tiles.count(0), changes - kept + left);
                Due.is("changes then", tiles.count(10), left);
            }
            Due.is("undo once more", tiles.undo(), NOT_POSSIBLE);
            Due.is("points that stay", tiles.count(0), changes - kept);
            Due.is("the points are those that were put first", tiles.of(changes - kept - 1, 1),
                changes > 6 ? 2 * (changes - 7) : NO_SUCH);
        }
    }

    /** "when one more is recorded, the oldest one is dropped": also when some were undone before. */
    private static void historyFilledAgain() {
        QuarterTiles tiles = new QuarterTiles();
        for (int i = 0; i < 6; i++) {
            tiles.point(i, 0);
        }
        for (int undone = 0; undone < 4; undone++) {
            tiles.undo();
        }
        for (int i = 0; i < 4; i++) {
            Due.is("a change after undo", tiles.point(i, 9) > 0 ? tiles.count(10) : -1, 3 + i);
        }
        Due.is("one more than 6", tiles.point(20, 20) > 0 ? tiles.count(10) : -1, 6);
        int[] points = {6, 5, 4, 3, 2, 1};
        for (int i = 0; i < 6; i++) {
            Due.is("undo", tiles.undo(), 5 - i);
            Due.is("points then", tiles.count(0), points[i]);
        }
        isAt("the one that stays", tiles, 0, 0, 0);
        Due.is("undo of what was dropped", tiles.undo(), NOT_POSSIBLE);
    }

    /** "everything except the pad, the slots and the history is as it was before it". */
    private static void undoOfEachKindOfChange() {
        undone("set FULL", tiles -> tiles.set(FULL, 8));
        undone("set DEEP", tiles -> tiles.set(DEEP, 1));
        undone("point", tiles -> tiles.point(63, 0));
        undone("take of the first", tiles -> tiles.take(0));
        undone("take of the last", tiles -> tiles.take(3));
        undone("move", tiles -> tiles.move(1, 63, 0));
        undone("move to its own place", tiles -> tiles.move(0, 1, 1));
        undone("an order", tiles -> tiles.split(6, true));
        undone("an order taken back", tiles -> tiles.split(7, false));
        undone("restore", tiles -> tiles.restore(0));
        QuarterTiles tiles = someState();
        text(tiles, "10,10;11,11");
        Due.is("putAll of two", tiles.putAll(), 2);
        Due.is("undo of putAll", tiles.undo(), someState().count(10));
        Due.holds("undo of putAll brings all back", Sight.of(tiles).equals(Sight.of(someState())));
    }

    /** Four points, which slot 0 has, two orders, settings; five changes, so that one more drops none. */
    private static QuarterTiles someState() {
        QuarterTiles tiles = new QuarterTiles();
        text(tiles, "1,1;2,2;40,40;3,3");
        tiles.putAll();
        tiles.save(0);
        tiles.set(FULL, 1);
        tiles.set(DEEP, 5);
        tiles.split(7, true);
        tiles.split(64, true);
        return tiles;
    }

    private static void undone(String change, Call call) {
        QuarterTiles tiles = someState();
        Due.is("changes ahead of " + change, tiles.count(10), 5);
        Due.holds(change + " is possible", call.on(tiles) > 0);
        Due.is(change + " is a change", tiles.count(10), 6);
        Due.is("undo of " + change, tiles.undo(), 5);
        Due.holds("undo of " + change + " brings all back", Sight.of(tiles).equals(Sight.of(someState())));
    }

    /** "each method that is a change, and returns no error, records": no other one does. */
    private static void whatRecordsNothing() {
        QuarterTiles tiles = withPoints("1,1;2,2");
        text(tiles, "3,");
        Call[] calls = {t -> t.set(FULL, 9), t -> t.point(1, 1), t -> t.point(64, 0), t -> t.take(2), t -> t.move(2, 0, 0),
            t -> t.move(0, 2, 2), t -> t.split(0, true), t -> t.split(1, false), t -> t.putAll(), t -> t.restore(0),
            t -> t.restore(2), t -> t.save(0), t -> t.save(1), t -> t.save(2), t -> t.put('1'), t -> t.fault(), t -> t.wipe(),
            t -> t.ifPut(0, 0, 0), t -> t.leastFull(1), t -> t.nearest(0, 0, 0), t -> t.leafAt(0, 0)};
        for (int i = 0; i < calls.length; i++) {
            calls[i].on(tiles);
            Due.is("changes after call " + i, tiles.count(10), 1);
        }
        Due.is("undo of the one change", tiles.undo(), 0);
        Due.is("points then", tiles.count(0), 0);
    }

    /** "(also if nothing is different then)". */
    private static void changesWithoutDifference() {
        QuarterTiles tiles = withPoints("1,1");
        tiles.save(0);
        Call[] calls = {t -> t.set(FULL, 2), t -> t.set(DEEP, 6), t -> t.move(0, 1, 1), t -> t.restore(0)};
        for (int i = 0; i < calls.length; i++) {
            calls[i].on(tiles);
            Due.is("changes after " + i, tiles.count(10), 2 + i);
        }
        text(tiles, "1,1");
        Due.is("putAll of one that is there", tiles.putAll(), 0);
        Due.is("changes after putAll", tiles.count(10), 6);
        for (int left = 5; left > 0; left--) {
            Due.is("undo of no difference", tiles.undo(), left);
            Due.is("points then", tiles.count(0), 1);
        }
        Due.is("undo of the point", tiles.undo(), 0);
        Due.is("no points", tiles.count(0), 0);
    }

    /** "everything except the pad, the slots and the history". */
    private static void undoLeavesPadAndSlots() {
        QuarterTiles tiles = withPoints("1,1");
        tiles.save(0);
        tiles.point(2, 2);
        tiles.save(1);
        text(tiles, "5,5");
        tiles.undo();
        tiles.undo();
        Due.is("the pad after undo", tiles.count(9), 3);
        Due.is("its fault after undo", tiles.fault(), NONE);
        Due.is("slot 0 after undo", tiles.restore(0), 1);
        Due.is("slot 1 after undo", tiles.restore(1), 2);
        tiles.undo();
        Due.is("undo of a restore leaves the slot", tiles.restore(1), 2);
        Due.is("the text after all", tiles.putAll(), 1);
        isAt("its point", tiles, 2, 5, 5);
    }

    // ---- promise 23

    /** "Returns how many points there are": none, and as many as there may be. */
    private static void saveOfNoneAndOfFifty() {
        QuarterTiles tiles = withFiftyPoints();
        Due.is("save of 50", tiles.save(1), 50);
        QuarterTiles none = new QuarterTiles();
        Due.is("save of none", none.save(0), 0);
        Due.is("restore of none", none.restore(0), 0);
        for (int left = 49; left >= 0; left--) {
            tiles.take(left);
        }
        Due.is("save of none into the other", tiles.save(0), 0);
        Due.is("restore of 50", tiles.restore(1), 50);
        isAt("the first of 50", tiles, 0, 0, 0);
        isAt("the last of 50", tiles, 49, 9, 4);
        Due.is("the 51st", tiles.point(63, 63), TOO_MANY);
        Due.is("leaves of 50", tiles.count(1), 61);
        Due.is("restore of none over 50", tiles.restore(0), 0);
        Due.is("leaves of none", tiles.count(1), 1);
        Due.is("no point 0", tiles.of(0, 0), NO_SUCH);
        Due.is("save(-1)", tiles.save(-1), BAD_VALUE);
        Due.is("save(2)", tiles.save(2), BAD_VALUE);
    }

    /** "and overwrites what was saved there". */
    private static void saveOverwrites() {
        for (int slot = 0; slot < 2; slot++) {
            QuarterTiles tiles = withPoints("1,1;2,2;3,3");
            tiles.split(7, true);
            tiles.save(slot);
            tiles.split(7, false);
            tiles.set(FULL, 8);
            tiles.take(0);
            Due.is("save over it", tiles.save(slot), 2);
            tiles.take(0);
            tiles.set(FULL, 1);
            Due.is("restore of what was saved last", tiles.restore(slot), 2);
            isAt("its first point", tiles, 0, 2, 2);
            Due.is("its FULL", tiles.count(7), 8);
            Due.is("its orders", tiles.count(5), 0);
            Due.is("the other slot", tiles.restore(1 - slot), NOT_POSSIBLE);
        }
    }

    /** "Saves .. in a slot": it is not said to be a change, so that it records nothing. */
    private static void saveIsNoChange() {
        QuarterTiles tiles = new QuarterTiles();
        tiles.save(0);
        tiles.save(1);
        Due.is("changes after save", tiles.count(10), 0);
        Due.is("undo after save", tiles.undo(), NOT_POSSIBLE);
        tiles.point(1, 1);
        tiles.save(0);
        tiles.undo();
        Due.is("what was saved stays after undo", tiles.restore(0), 1);
    }

    /** "Saves everything except the pad, the history and the slots". */
    private static void saveKeepsPadAndHistoryOut() {
        QuarterTiles tiles = withPoints("1,1");
        text(tiles, "7,7");
        tiles.save(0);
        tiles.wipe();
        text(tiles, "8,8;9");
        tiles.point(2, 2);
        tiles.point(3, 3);
        tiles.save(1);
        Due.is("restore of slot 0", tiles.restore(0), 1);
        Due.is("the pad is that of now", tiles.count(9), 5);
        Due.is("the history goes on", tiles.count(10), 4);
        Due.is("the other slot is as it was", tiles.restore(1), 3);
        Due.is("undo goes back to what was there", tiles.undo(), 4);
        Due.is("points then", tiles.count(0), 1);
        Due.is("undo goes back to what was there before", tiles.undo(), 3);
        Due.is("points before", tiles.count(0), 3);
    }

    // ---- promise 24

    /** "NOT_POSSIBLE if nothing was saved in it", in each slot by itself; "BAD_VALUE if there is no such slot". */
    private static void restoreOfNothing() {
        for (int slot = 0; slot < 2; slot++) {
            QuarterTiles tiles = withPoints("1,1");
            Due.is("restore(" + slot + ") of nothing", tiles.restore(slot), NOT_POSSIBLE);
            tiles.save(1 - slot);
            Due.is("restore(" + slot + ") with the other saved", tiles.restore(slot), NOT_POSSIBLE);
            Due.is("changes", tiles.count(10), 1);
            tiles.save(slot);
            Due.is("restore(" + slot + ")", tiles.restore(slot), 1);
            Due.is("changes then", tiles.count(10), 2);
            tiles.undo();
            tiles.undo();
            Due.is("restore(" + slot + ") after undo of all", tiles.restore(slot), 1);
        }
        for (int wrong : new int[] {-1, 2, LEAST, GREATEST}) {
            Due.is("restore(" + wrong + ")", new QuarterTiles().restore(wrong), BAD_VALUE);
        }
    }

    /** "what was saved last in a slot, which keeps it": whatever is changed behind save() and restore(). */
    private static void restoreKeepsTheSlot() {
        QuarterTiles tiles = withPoints("1,1;2,2;3,3");
        tiles.split(7, true);
        tiles.save(0);
        Call[] changes = {t -> t.take(0), t -> t.move(1, 9, 9), t -> t.point(8, 8), t -> t.split(7, false),
            t -> t.split(6, true), t -> t.set(FULL, 5), t -> t.set(DEEP, 2), t -> t.undo(), t -> t.save(1)};
        for (int i = 0; i < changes.length; i++) {
            changes[i].on(tiles);
            Due.is("restore after change " + i, tiles.restore(0), 3);
            isAt("point 0 after change " + i, tiles, 0, 1, 1);
            isAt("point 1 after change " + i, tiles, 1, 2, 2);
            isAt("point 2 after change " + i, tiles, 2, 3, 3);
            Due.is("orders after change " + i, tiles.count(5), 1);
            Due.is("the order after change " + i, tiles.tile(7, 6), 1);
            Due.is("FULL after change " + i, tiles.count(7), 2);
            Due.is("DEEP after change " + i, tiles.count(8), 6);
            Due.is("points in the map after change " + i, tiles.tile(1, 4), 3);
        }
    }

    /** "This is a change." */
    private static void restoreIsAChange() {
        QuarterTiles tiles = withPoints("1,1");
        tiles.save(1);
        for (int i = 0; i < 7; i++) {
            tiles.restore(1);
            Due.is("changes after restore " + i, tiles.count(10), Math.min(6, 2 + i));
        }
        tiles.point(2, 2);
        tiles.restore(1);
        Due.is("undo of restore", tiles.undo(), 5);
        Due.is("points then", tiles.count(0), 2);
        isAt("the last point", tiles, 1, 2, 2);
        tiles.point(3, 3);
        Due.is("a change after it", tiles.restore(1), 1);
    }

    /** "Restores what was saved last": all of it, also over as much as there may be; and undo brings that back. */
    private static void restoreOfEverything() {
        QuarterTiles tiles = someState();
        tiles.save(1);
        int[] before = new int[11];
        for (int what = 0; what <= 8; what++) {
            before[what] = tiles.count(what);
        }
        tiles.set(FULL, 8);
        tiles.set(DEEP, 1);
        for (int order = 16; order < 26; order++) {
            tiles.split(order, true);
        }
        for (int point = 4; point < 50; point++) {
            tiles.point(63 - point, 50);
        }
        Due.is("orders that are overwritten", tiles.count(5), 12);
        Due.is("points that are overwritten", tiles.count(0), 50);
        Due.is("restore", tiles.restore(1), 4);
        for (int what = 0; what <= 8; what++) {
            Due.is("count(" + what + ") as it was saved", tiles.count(what), before[what]);
        }
        for (int order = 16; order < 26; order++) {
            Due.is("order " + order + " was not saved", tiles.tile(order, 6), 0);
        }
        Due.is("the first order", tiles.tile(7, 6), 1);
        Due.is("the second order", tiles.tile(64, 6), 1);
        isAt("the last point that was saved", tiles, 3, 3, 3);
        tiles.undo();
        Due.is("points that are back", tiles.count(0), 50);
        Due.is("orders that are back", tiles.count(5), 12);
        isAt("the last point that is back", tiles, 49, 14, 50);
        Due.is("FULL that is back", tiles.count(7), 8);
        Due.is("DEEP that is back", tiles.count(8), 1);
    }
}
