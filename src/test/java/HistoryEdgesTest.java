/** The edges that "HISTORY" and promises 12, 13 and 14 name, and the 512 calls of "What it is". */
public final class HistoryEdgesTest {
    private static final int NONE = BeamKeepers.NONE;
    private static final Look.Script NEW = game -> { };

    public static void main(String[] args) {
        emptyHistory();
        fourStates();
        theOldestIsDropped();
        eachActRecords();
        nothingElseRecords();
        undoAndActsInTurn();
        snapshotEmptyAtFirst();
        snapshotInPlaceOfTheOneThatWas();
        snapshotStays();
        restoreIsAnAct();
        restoreIntoAFullHistory();
        stateWithoutTextHistoryAndSnapshot();
        stateIsEverythingElse();
        whatWasSoFarIsOfTheState();
        objectsShareNothing();
        fiveHundredAndTwelveCalls();
        Check.end();
    }

    // "NONE if the history is empty": nothing changes.
    private static void emptyHistory() {
        Look.refused("undo of a new object", NEW, game -> game.undo(), NONE);
        Look.Script undone = game -> {
            Look.busy(game);
            for (int i = 0; i < 4; i++) {
                game.undo();
            }
        };
        Check.due("no states", Look.made(undone).count(11), 0);
        Look.refused("undo when all is undone", undone, game -> game.undo(), NONE);
        Look.refused("undo again", undone, game -> game.undo() + game.undo(), NONE + NONE);
        BeamKeepers game = Look.made(undone);
        game.undo();
        Check.due("an act after it", game.rock(99), 4);
        Check.due("is recorded", game.count(11), 1);
        Check.due("and undone", game.undo(), 0);
        Check.due("one rock less", game.cellOf(99, 0), 0);
    }

    // "A history of at most 4 states is kept"; "returns the number of states that are left".
    private static void fourStates() {
        for (int acts = 0; acts <= 9; acts++) {
            BeamKeepers game = new BeamKeepers();
            for (int i = 0; i < acts; i++) {
                game.rock(i);
            }
            int states = Math.min(4, acts);
            Check.due("states after " + acts, game.count(11), states);
            for (int left = states - 1; left >= 0; left--) {
                Check.due("left", game.undo(), left);
                Check.due("told", game.count(11), left);
                Check.due("rocks", game.count(1), acts - states + left);
            }
            Check.due("empty", game.undo(), NONE);
            Check.due("rocks", game.count(1), acts - states);
        }
    }

    // "When one more is recorded, the oldest one is dropped."
    private static void theOldestIsDropped() {
        BeamKeepers four = new BeamKeepers();
        BeamKeepers five = new BeamKeepers();
        for (int i = 0; i < 5; i++) {
            if (i < 4) {
                four.rock(i);
            }
            five.rock(i);
        }
        for (int i = 0; i < 4; i++) {
            four.undo();
            five.undo();
        }
        Check.due("the first one is there", four.count(1), 0);
        Check.due("the first one is dropped", five.count(1), 1);
        Check.due("the rock of the first act", five.cellOf(0, 0), 1);
    }

    // "Each call of a method that is described as an act, and returns no error and not NONE."
    private static void eachActRecords() {
        for (int i = 0; i < 2; i++) {
            Look.Script script = i == 0 ? game -> Look.write(game, "r11;h1") : Look::busy;
            BeamKeepers made = Look.made(script);
            int rocks = made.count(1);
            Look.act("rock", script, game -> game.rock(5), rocks + 1);
            Look.act("light 0", script, game -> game.light(0, 0, 4), made.lightOf(0, 0));
            Look.act("light 1", script, game -> game.light(0, 1, 3), made.lightOf(0, 1));
            Look.act("light 2", script, game -> game.light(0, 2, 9), made.lightOf(0, 2));
            Look.act("light 3", script, game -> game.light(0, 3, 9), made.lightOf(0, 3));
            Look.act("ship", script, game -> game.ship(9, 5, 6), made.count(2));
            Look.act("doAll", script, game -> game.doAll(), 2);
            Look.act("card", script, game -> game.card(0, 2), 3);
            Look.act("pass", script, game -> game.pass(3), i);
            Look.act("wage", script, game -> game.wage(7), 2);
        }
        Look.act("restore", Look::busy, game -> game.restore(), 1);
    }

    private static void nothingElseRecords() {
        Look.Call[] calls = {
            g -> g.type('x'), g -> g.clearText(), g -> g.fault(), g -> g.keep(), g -> g.cellOf(5, 2),
            g -> g.lightOf(0, 5), g -> g.keeperOf(0, 0), g -> g.shipOf(0, 1), g -> g.isLit(0, 5, 5, 0),
            g -> g.isLit(0, 5, 5, 1), g -> g.why(0, 5), g -> g.count(7), g -> g.share(5), g -> g.litIn(5),
            g -> g.ifPassed(40), g -> g.bestCard(0), g -> g.bestCard(1),
        };
        for (int i = 0; i < calls.length; i++) {
            for (int made = 0; made <= 5; made++) {
                int acts = made;
                Look.Script script = game -> {
                    for (int act = 0; act < acts; act++) {
                        game.rock(act);
                    }
                };
                BeamKeepers game = Look.made(script);
                calls[i].on(game);
                Check.due("call " + i + " records nothing", game.count(11), Math.min(4, acts));
                String before = Check.told(Look.made(script));
                Check.due("call " + i + " leaves the state", Check.told(game).equals(before) ? 1 : 0, 1);
                game.undo();
                Check.due("call " + i + ": the act ahead of it is undone", game.count(1), Math.max(0, acts - 1));
            }
        }
    }

    private static void undoAndActsInTurn() {
        BeamKeepers game = new BeamKeepers();
        for (int round = 0; round < 10; round++) {
            for (int i = 0; i < 6; i++) {
                game.pass(1);
            }
            Check.due("full", game.count(11), 4);
            Check.due("undo", game.undo(), 3);
            Check.due("undo", game.undo(), 2);
            Check.due("hour", game.count(0), 4 * round + 4);
            game.pass(2);
            Check.due("three", game.count(11), 3);
            Check.due("undo", game.undo(), 2);
            Check.due("undo", game.undo(), 1);
            Check.due("hour", game.count(0), 4 * round + 3);
            Check.due("undo", game.undo(), 0);
            Check.due("undo", game.undo(), NONE);
            Check.due("hour", game.count(0), 4 * round + 2);
            game.pass(2);
        }
    }

    // "There is one snapshot, empty at first"; "NONE if there is no snapshot".
    private static void snapshotEmptyAtFirst() {
        Look.refused("restore of a new object", NEW, game -> game.restore(), NONE);
        Look.Script acted = game -> {
            game.rock(5);
            game.ship(9, 0, 9);
            game.pass(2);
            game.undo();
            Look.write(game, "r11");
        };
        Look.refused("restore without a snapshot", acted, game -> game.restore(), NONE);
    }

    // "Takes a snapshot of the state, in place of the one that was."
    private static void snapshotInPlaceOfTheOneThatWas() {
        BeamKeepers game = new BeamKeepers();
        Check.due("keep of the first hour", game.keep(), 0);
        game.pass(5);
        game.rock(5);
        Check.due("keep of another", game.keep(), 5);
        game.pass(3);
        game.rock(5);
        Check.due("the newer one", game.restore(), 5);
        Check.due("its rock", game.cellOf(5, 0), 1);
        game.undo();
        Check.due("keep again", game.keep(), 8);
        Check.due("the newest one", game.restore(), 8);
        Check.due("no rock", game.cellOf(5, 0), 0);
    }

    // "Restores the state of the snapshot, which stays."
    private static void snapshotStays() {
        BeamKeepers game = Look.made(Look::busy);
        for (int i = 0; i < 6; i++) {
            Check.due("restore", game.restore(), 1);
            game.pass(i + 1);
            game.rock(5);
            game.light(0, 0, i % 2);
        }
        Check.due("restore", game.restore(), 1);
        BeamKeepers once = Look.made(Look::busy);
        once.restore();
        Check.due("as at first", Check.told(once).equals(Check.told(game)) ? 1 : 0, 1);
        // Undo does not bring it back, nor take it away.
        BeamKeepers undone = new BeamKeepers();
        undone.pass(2);
        undone.keep();
        undone.undo();
        Check.due("the snapshot of an hour that was undone", undone.restore(), 2);
        undone.undo();
        undone.keep();
        undone.pass(1);
        undone.undo();
        Check.due("the one of the hour 0", undone.restore(), 0);
    }

    // "This is an act": also if the state is as it was.
    private static void restoreIsAnAct() {
        BeamKeepers game = new BeamKeepers();
        game.keep();
        for (int i = 1; i <= 6; i++) {
            Check.due("restore", game.restore(), 0);
            Check.due("states", game.count(11), Math.min(4, i));
        }
        game.pass(1);
        Check.due("restore", game.restore(), 0);
        Check.due("undo of restore", game.undo(), 3);
        Check.due("hour", game.count(0), 1);
    }

    private static void restoreIntoAFullHistory() {
        BeamKeepers game = new BeamKeepers();
        game.keep();
        for (int i = 0; i < 4; i++) {
            game.pass(1);
        }
        Check.due("full", game.count(11), 4);
        Check.due("restore", game.restore(), 0);
        Check.due("full", game.count(11), 4);
        int[] hours = {4, 3, 2, 1};
        for (int i = 0; i < 4; i++) {
            Check.due("undo", game.undo(), 3 - i);
            Check.due("hour", game.count(0), hours[i]);
        }
        Check.due("undo", game.undo(), NONE);
    }

    // "A state is everything but the text, the history and the snapshot."
    private static void stateWithoutTextHistoryAndSnapshot() {
        BeamKeepers text = new BeamKeepers();
        Look.write(text, "r1");
        text.keep();
        text.rock(5);
        text.type('1');
        Check.due("undo", text.undo(), 0);
        Check.due("the text is not undone", text.count(12), 3);
        text.type(';');
        Check.due("restore", text.restore(), 0);
        Check.due("the text is not restored", text.count(12), 4);
        text.clearText();
        text.undo();
        Check.due("nor brought back", text.count(12), 0);
        BeamKeepers history = new BeamKeepers();
        history.rock(1);
        history.rock(2);
        history.keep();
        history.rock(3);
        Check.due("restore", history.restore(), 0);
        Check.due("one state more, not those of the snapshot", history.count(11), 4);
        history.undo();
        history.undo();
        Check.due("undo", history.undo(), 1);
        Check.due("rocks", history.count(1), 1);
        BeamKeepers snapshot = new BeamKeepers();
        snapshot.rock(1);
        snapshot.keep();
        snapshot.rock(2);
        snapshot.restore();
        snapshot.undo();
        snapshot.undo();
        snapshot.undo();
        Check.due("no rock", snapshot.count(1), 0);
        Check.due("the snapshot is not undone", snapshot.restore(), 0);
        Check.due("its rock", snapshot.count(1), 1);
    }

    // Each thing of the state is brought back by undo and by restore.
    private static void stateIsEverythingElse() {
        Look.Script[] changes = {
            g -> g.rock(5), g -> g.rock(88), g -> g.light(0, 0, 1), g -> g.light(1, 1, 2), g -> g.light(2, 2, 1),
            g -> g.light(3, 3, 1), g -> g.ship(9, 5, 6), g -> g.card(0, 3), g -> g.card(3, 1), g -> g.pass(1),
            g -> g.pass(20), g -> g.wage(9), g -> g.doAll(),
        };
        String before = Check.told(Look.made(Look::busy));
        for (int i = 0; i < changes.length; i++) {
            Look.Script change = changes[i];
            BeamKeepers changed = Look.made(Look::busy);
            change.play(changed);
            Check.due("change " + i, Check.told(changed).equals(before) ? 1 : 0, 0);
            BeamKeepers undone = Look.made(Look::busy);
            change.play(undone);
            undone.undo();
            Check.due("undo of change " + i, Check.told(undone).equals(before) ? 1 : 0, 1);
            BeamKeepers restored = Look.made(Look::busy);
            restored.keep();
            change.play(restored);
            change.play(restored);
            restored.restore();
            Check.due("restore after change " + i, Check.told(restored).equals(before) ? 1 : 0, 1);
        }
    }

    /** A ship that waits by a lit rock in the first hour and is wrecked in the second one. */
    private static void waiting(BeamKeepers game, int hours) {
        Look.alone(game);
        game.rock(24);
        game.ship(30, 15, 33);
        for (int i = 0; i < hours; i++) {
            game.pass(1);
        }
    }

    // "Hours that it waited so far", "wrecks that it owed so far", "coins that it paid so far".
    private static void whatWasSoFarIsOfTheState() {
        int[][] due = {{0, 0, 0, 0}, {1, 0, 0, 0}, {1, 1, 4, 26}};
        for (int undos = 0; undos <= 2; undos++) {
            BeamKeepers undone = new BeamKeepers();
            waiting(undone, 2);
            for (int i = 0; i < undos; i++) {
                undone.undo();
            }
            soFar("undone " + undos, undone, due[2 - undos]);
            BeamKeepers restored = new BeamKeepers();
            waiting(restored, undos);
            restored.keep();
            restored.pass(2);
            restored.restore();
            soFar("restored from hour " + undos, restored, due[undos]);
        }
    }

    private static void soFar(String name, BeamKeepers game, int[] due) {
        Check.due(name + ": waited", game.shipOf(0, 4), due[0]);
        Check.due(name + ": owed", game.keeperOf(0, 3), due[1]);
        Check.due(name + ": paid", game.keeperOf(0, 4), due[2]);
        Check.due(name + ": debt", game.keeperOf(0, 1), due[3]);
    }

    private static void objectsShareNothing() {
        Look.Script script = game -> {
            Look.busy(game);
            Look.busy(new BeamKeepers());
        };
        String alone = Look.all(Look::busy);
        Check.due("another object", Look.all(script).equals(alone) ? 1 : 0, 1);
        Look.made(Look::busy).pass(20);
        BeamKeepers game = new BeamKeepers();
        Check.due("no snapshot of another one", game.restore(), NONE);
        Check.due("no history of another one", game.undo(), NONE);
        Check.due("no text of another one", game.count(12), 0);
    }

    /** Acts, texts and tellings in turn, so that 511 calls come ahead of the last one. */
    private static void fiveHundredAndElevenCalls(BeamKeepers game) {
        game.ship(9, 0, 9);
        game.keep();
        for (int i = 0; i < 101; i++) {
            game.rock(55);
            game.ifPassed(40);
            game.bestCard(i % 4);
            game.type('r');
            game.clearText();
        }
        game.type('r');
        game.type('1');
        game.type('1');
        game.count(7);
    }

    // "An object is used for at most 512 calls": the 512th answers as any other one.
    private static void fiveHundredAndTwelveCalls() {
        Look.Call[] calls = {
            g -> g.rock(5), g -> g.light(0, 0, 4), g -> g.ship(9, 5, 6), g -> g.doAll(), g -> g.card(0, 2),
            g -> g.pass(3), g -> g.wage(7), g -> g.type('x'), g -> g.clearText(), g -> g.fault(), g -> g.undo(),
            g -> g.keep(), g -> g.restore(), g -> g.cellOf(55, 0), g -> g.lightOf(0, 6), g -> g.keeperOf(0, 2),
            g -> g.shipOf(0, 6), g -> g.isLit(0, 55, 1, 0), g -> g.isLit(0, 55, 1, 1), g -> g.why(0, 55),
            g -> g.count(1), g -> g.share(55), g -> g.litIn(55), g -> g.ifPassed(40), g -> g.bestCard(1),
        };
        double[] due = {2, 0, 1, 1, 3, 0, 2, 4, 3, NONE, 3, 0, 0, 1, 18, 3, 0, 1, 1, 4, 1, 0.375, 1, 0, NONE};
        for (int i = 0; i < calls.length; i++) {
            Check.due("call 512: " + i, calls[i].on(Look.made(HistoryEdgesTest::fiveHundredAndElevenCalls)), due[i]);
        }
    }
}
