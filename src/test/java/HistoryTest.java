/** Promises 12 to 14: undo, keep, restore; and what is an act. */
public final class HistoryTest {
    public static void main(String[] args) {
        fourStates();
        acts();
        snapshots();
        wholeState();
        whatWasSoFar();
        Check.end();
    }

    private static void fourStates() {
        BeamKeepers game = new BeamKeepers();
        Check.due("empty", game.undo(), BeamKeepers.NONE);
        for (int i = 1; i <= 7; i++) {
            game.pass(1);
            Check.due("states", game.count(11), Math.min(i, 4));
        }
        for (int left = 3; left >= 0; left--) {
            Check.due("undo", game.undo(), left);
            Check.due("hour", game.count(0), 3 + left);
            Check.due("states", game.count(11), left);
        }
        Check.due("no more", game.undo(), BeamKeepers.NONE);
        Check.due("hour", game.count(0), 3);
        // The oldest is dropped, again and again, with undo in between.
        for (int i = 0; i < 5; i++) {
            game.pass(2);
        }
        game.undo();
        game.rock(0);
        game.rock(1);
        Check.due("full", game.count(11), 4);
        int[] hour = {11, 11, 9, 7};
        int[] rocks = {1, 0, 0, 0};
        for (int i = 0; i < 4; i++) {
            Check.due("undo", game.undo(), 3 - i);
            Check.due("hour", game.count(0), hour[i]);
            Check.due("rocks", game.count(1), rocks[i]);
        }
    }

    private static void acts() {
        BeamKeepers game = new BeamKeepers();
        game.ship(1, 0, 9);
        int states = game.count(11);
        game.type('h');
        game.type('1');
        game.fault();
        game.keep();
        game.cellOf(0, 1);
        game.lightOf(0, 6);
        game.keeperOf(0, 0);
        game.shipOf(0, 6);
        game.isLit(0, 0, 0, 1);
        game.why(0, 0);
        game.share(0);
        game.litIn(0);
        game.ifPassed(40);
        game.bestCard(0);
        Check.due("no acts", game.count(11), states);
        game.clearText();
        Check.due("no act", game.count(11), states);
        game.restore();
        Check.due("restore is an act", game.count(11), states + 1);
        game.undo();
        Check.due("undo is none", game.count(11), states);
        // The answers that only tell what would be leave everything as it was.
        game.rock(5);
        String before = Check.told(game);
        game.ifPassed(40);
        game.bestCard(1);
        game.litIn(99);
        Check.same("what would be", game, before);
    }

    private static void snapshots() {
        BeamKeepers game = new BeamKeepers();
        Check.due("none", game.restore(), BeamKeepers.NONE);
        Check.due("no state", game.count(11), 0);
        game.pass(3);
        Check.due("keep", game.keep(), 3);
        game.rock(0);
        Check.due("undo", game.undo(), 1);
        Check.due("undo", game.undo(), 0);
        Check.due("hour", game.count(0), 0);
        Check.write(game, "r00");
        Check.due("restore after undo", game.restore(), 3);
        Check.due("hour", game.count(0), 3);
        Check.due("no rock", game.count(1), 0);
        Check.due("text stays", game.count(12), 3);
        Check.due("states", game.count(11), 1);
        Check.due("restore again", game.restore(), 3);
        Check.due("same state, but an act", game.count(11), 2);
        game.undo();
        Check.due("undo of restore", game.undo(), 0);
        Check.due("hour", game.count(0), 0);
        game.pass(1);
        Check.due("in place of the one that was", game.keep(), 1);
        game.pass(5);
        Check.due("newer", game.restore(), 1);
        game.pass(1);
        Check.due("the snapshot stays", game.restore(), 1);
    }

    private static BeamKeepers rich() {
        BeamKeepers game = new BeamKeepers();
        game.wage(1);
        game.light(0, 0, 5);
        game.light(1, 1, 3);
        game.light(2, 2, 8);
        game.light(3, 3, 255);
        game.light(0, 3, 255);
        game.rock(1);
        game.rock(88);
        game.ship(40, 0, 9);
        game.ship(90, 50, 59);
        game.ship(90, 51, 59);
        game.ship(7, 98, 97);
        game.pass(2);
        game.card(2, 1);
        return game;
    }

    private static void wholeState() {
        String before = Check.told(rich());
        BeamKeepers changed = rich();
        change(changed);
        Check.due("changed", Check.told(changed).equals(before) ? 1 : 0, 0);
        BeamKeepers game = rich();
        game.keep();
        change(game);
        game.restore();
        Check.same("restore", game, before);
        game = rich();
        Check.due("parts", Check.does(game, "r11;d10;d30;s5:00>09;s99:01>09;h12"), 6);
        game.undo();
        Check.same("undo", game, before);
        // The history is not brought back with the state.
        game = rich();
        game.keep();
        game.undo();
        game.undo();
        Check.due("history", game.count(11), 2);
        game.restore();
        Check.due("history then", game.count(11), 3);
        Check.same("restore", game, before);
    }

    /** A ship that waits in the first hour and is wrecked in the second one. */
    private static BeamKeepers waiting(int hours) {
        BeamKeepers game = new BeamKeepers();
        game.light(1, 3, 255);
        game.rock(24);
        game.ship(30, 15, 33);
        for (int i = 0; i < hours; i++) {
            game.pass(1);
        }
        return game;
    }

    private static void whatWasSoFar() {
        // Hours waited, wrecks owed and coins paid so far are of the state, too.
        String atFirst = Check.told(waiting(0));
        String waited = Check.told(waiting(1));
        String wrecked = Check.told(waiting(2));
        BeamKeepers game = waiting(2);
        Check.due("waited", game.shipOf(0, 4), 1);
        Check.due("owed", game.keeperOf(0, 3), 1);
        Check.due("paid", game.keeperOf(0, 4), 4);
        game.undo();
        Check.same("undo of the wreck", game, waited);
        game.undo();
        Check.same("undo of the waiting", game, atFirst);
        game = waiting(1);
        game.keep();
        game.pass(1);
        game.undo();
        game.undo();
        game.restore();
        Check.same("restore of the waiting", game, waited);
        game.pass(1);
        Check.same("wrecked again", game, wrecked);
        game = waiting(2);
        game.keep();
        game.undo();
        Check.same("undo", game, waited);
        game.restore();
        Check.same("restore of the wreck", game, wrecked);
        // A ship that comes where one was taken back begins anew.
        BeamKeepers other = new BeamKeepers();
        other.rock(24);
        other.ship(30, 15, 33);
        other.pass(3);
        other.undo();
        other.undo();
        Check.due("new ship", other.ship(5, 15, 33), 0);
        int[] told = {5, 15, 33, 0, 0, 2, 0};
        for (int what = 0; what < told.length; what++) {
            Check.due("new ship " + what, other.shipOf(0, what), told[what]);
        }
    }

    private static void change(BeamKeepers game) {
        game.wage(8);
        for (int i = 0; i < 4; i++) {
            game.light(i, 0, 6);
            game.light(i, 1, 2);
            game.light(i, 2, 1);
            game.light(i, 3, 85);
            game.card(i, (i + 1) % 4);
        }
        game.rock(3);
        game.rock(1);
        game.ship(99, 33, 44);
        game.pass(20);
    }
}
