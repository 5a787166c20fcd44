/** Promises 1 to 4: a new object, rock, light, ship. */
public final class ChartTest {
    private static final int[] OUT = {-1, 100, Integer.MIN_VALUE, Integer.MAX_VALUE};

    public static void main(String[] args) {
        newObject();
        rocks();
        lights();
        ships();
        Check.end();
    }

    private static void newObject() {
        BeamKeepers game = new BeamKeepers();
        int[] counts = {0, 0, 0, 0, 0, 0, 0, 0, 0, 0, 0, 0, 0, 2};
        for (int what = 0; what < counts.length; what++) {
            if (what != 7) {
                Check.due("new: count " + what, game.count(what), counts[what]);
            }
        }
        for (int i = 0; i < 4; i++) {
            int[] light = {i, 1, 5, 0, 0, i};
            for (int what = 0; what < light.length; what++) {
                Check.due("new: lightOf " + i + " " + what, game.lightOf(i, what), light[what]);
            }
            int[] keeper = {0, 0, 3, 0, 0};
            for (int what = 0; what < keeper.length; what++) {
                Check.due("new: keeperOf " + i + " " + what, game.keeperOf(i, what), keeper[what]);
            }
        }
        for (int cell = 0; cell < 100; cell++) {
            Check.due("new: rock in " + cell, game.cellOf(cell, 0), 0);
            Check.due("new: ship in " + cell, game.cellOf(cell, 1), BeamKeepers.NONE);
        }
        Check.due("new: ship 0", game.shipOf(0, 0), BeamKeepers.UNKNOWN);
        Check.due("new: undo", game.undo(), BeamKeepers.NONE);
        Check.due("new: restore", game.restore(), BeamKeepers.NONE);
        Check.due("new: clearText", game.clearText(), 0);
        // Two objects share nothing.
        new BeamKeepers().rock(5);
        Check.due("new: another one's rock", game.cellOf(5, 0), 0);
    }

    private static void rocks() {
        BeamKeepers game = new BeamKeepers();
        int expected = 0;
        for (int cell = 0; cell < 100; cell++) {
            boolean light = cell == 22 || cell == 27 || cell == 72 || cell == 77;
            expected += light ? 0 : 1;
            Check.due("rock " + cell, game.rock(cell), light ? BeamKeepers.NOT_POSSIBLE : expected);
            Check.due("rock is in " + cell, game.cellOf(cell, 0), light ? 0 : 1);
        }
        Check.due("all rocks", game.count(1), 96);
        Check.due("history is full", game.count(11), 4);
        Check.due("rock taken away", game.rock(50), 95);
        Check.due("rock is gone", game.cellOf(50, 0), 0);
        Check.due("rock beside it stays", game.cellOf(51, 0), 1);
        Check.due("undo", game.undo(), 3);
        Check.due("rock is back", game.cellOf(50, 0), 1);
        for (int cell : OUT) {
            Check.due("rock out " + cell, game.rock(cell), BeamKeepers.UNKNOWN);
        }
        game.rock(22);
        Check.due("an error is not recorded", game.count(11), 3);
        // A rock may come to a ship at sea and to its harbour.
        BeamKeepers other = new BeamKeepers();
        other.ship(5, 0, 1);
        Check.due("rock under a ship", other.rock(0), 1);
        Check.due("rock in a harbour", other.rock(1), 2);
    }

    private static void lights() {
        int[] first = {2, 1, 5, 0};
        int[] least = {0, 1, 1, 0};
        int[] most = {7, 3, 9, 255};
        for (int what = 0; what < 4; what++) {
            BeamKeepers game = new BeamKeepers();
            int previous = first[what];
            int recorded = 0;
            int step = what == 3 ? 5 : 1;
            for (int value = least[what]; value <= most[what]; value += step) {
                int due = value == previous ? BeamKeepers.NONE : previous;
                Check.due("light " + what + " " + value, game.light(2, what, value), due);
                recorded += value == previous ? 0 : 1;
                Check.due("states", game.count(11), Math.min(recorded, 4));
                previous = value;
                Check.due("setting " + what, game.lightOf(2, what), value);
                for (int other = 0; other < 4; other++) {
                    if (other != what) {
                        Check.due("other setting " + other, game.lightOf(2, other), first[other]);
                    }
                }
            }
            Check.due("same again", game.light(2, what, most[what]), BeamKeepers.NONE);
            int states = game.count(11);
            Check.due("too low", game.light(2, what, least[what] - 1), BeamKeepers.BAD_VALUE);
            Check.due("too high", game.light(2, what, most[what] + 1), BeamKeepers.BAD_VALUE);
            Check.due("far too low", game.light(2, what, Integer.MIN_VALUE), BeamKeepers.BAD_VALUE);
            Check.due("far too high", game.light(2, what, Integer.MAX_VALUE), BeamKeepers.BAD_VALUE);
            Check.due("kept", game.lightOf(2, what), most[what]);
            Check.due("other light", game.lightOf(1, what), what == 0 ? 1 : first[what]);
            Check.due("not recorded", game.count(11), states);
            Check.due("undo", game.undo(), states - 1);
            Check.due("value before", game.lightOf(2, what), most[what] - step);
        }
        BeamKeepers game = new BeamKeepers();
        Check.due("light -1", game.light(-1, 0, 1), BeamKeepers.UNKNOWN);
        Check.due("light 4 ahead of what", game.light(4, 9, 1), BeamKeepers.UNKNOWN);
        Check.due("what -1", game.light(0, -1, 1), BeamKeepers.BAD_VALUE);
        Check.due("what 4 (fog)", game.light(0, 4, 1), BeamKeepers.BAD_VALUE);
        Check.due("what far", game.light(0, Integer.MAX_VALUE, 1), BeamKeepers.BAD_VALUE);
    }

    private static void ships() {
        BeamKeepers game = new BeamKeepers();
        game.rock(40);
        for (int cell : OUT) {
            Check.due("ship from out", game.ship(0, cell, 1), BeamKeepers.UNKNOWN);
            Check.due("ship to out", game.ship(0, 1, cell), BeamKeepers.UNKNOWN);
        }
        Check.due("worth 0 ahead of same", game.ship(0, 1, 1), BeamKeepers.BAD_VALUE);
        Check.due("worth 100", game.ship(100, 1, 2), BeamKeepers.BAD_VALUE);
        Check.due("worth below", game.ship(Integer.MIN_VALUE, 1, 2), BeamKeepers.BAD_VALUE);
        Check.due("both same", game.ship(1, 1, 1), BeamKeepers.NOT_POSSIBLE);
        Check.due("from rock", game.ship(1, 40, 1), BeamKeepers.NOT_POSSIBLE);
        Check.due("to rock", game.ship(1, 1, 40), BeamKeepers.NOT_POSSIBLE);
        Check.due("no act so far", game.count(11), 1);
        Check.due("first ship", game.ship(1, 22, 99), 0);
        Check.due("an act", game.count(11), 2);
        Check.due("on a ship", game.ship(1, 22, 98), BeamKeepers.NOT_POSSIBLE);
        Check.due("to a ship's cell", game.ship(99, 0, 22), 1);
        Check.due("to the same harbour", game.ship(5, 1, 99), 2);
        int[] wanted = {5, 1, 99, 0, 0, 9};
        for (int what = 0; what < wanted.length; what++) {
            Check.due("shipOf 2 " + what, game.shipOf(2, what), wanted[what]);
        }
        // Ships at home and wrecks leave their cells free, but keep their numbers.
        BeamKeepers full = new BeamKeepers();
        for (int i = 0; i < 8; i++) {
            Check.due("ship number", full.ship(9, 0, 1), i);
            full.pass(1);
        }
        Check.due("home", full.count(4), 8);
        Check.due("worth home", full.count(10), 72);
        Check.due("ninth", full.ship(9, 0, 1), BeamKeepers.FULL);
        Check.due("ninth, not possible", full.ship(9, 0, 0), BeamKeepers.NOT_POSSIBLE);
        full.undo();
        full.undo();
        Check.due("after undo", full.ship(9, 90, 91), 7);
    }
}
