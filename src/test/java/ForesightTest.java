/** Promises 23 to 25: litIn, ifPassed, bestCard. */
public final class ForesightTest {
    public static void main(String[] args) {
        nextLit();
        wouldBeWrecked();
        bestCards();
        Check.end();
    }

    private static void nextLit() {
        BeamKeepers game = new BeamKeepers();
        for (int cell : new int[] {-1, 100, Integer.MIN_VALUE, Integer.MAX_VALUE}) {
            Check.due("litIn " + cell, game.litIn(cell), BeamKeepers.UNKNOWN);
        }
        Check.due("own cell", game.litIn(72), 0);
        Check.due("now", game.litIn(24), 0);
        Check.due("later", game.litIn(20), 4);
        game.pass(1);
        Check.due("later by one less", game.litIn(20), 3);
        game.pass(4);
        Check.due("a whole turn less one", game.litIn(20), 7);
        BeamKeepers dark = new BeamKeepers();
        dark.light(0, 3, 255);
        Check.due("never", dark.litIn(0), BeamKeepers.NONE);
        // Fog 9, range 9: light 0 with pace 1, a cell at distance 7 to the east is lit in hour 8.
        BeamKeepers fog = new BeamKeepers();
        fog.light(0, 2, 9);
        for (int i = 1; i < 4; i++) {
            fog.light(i, 3, 255);
            fog.card(i, 0);
        }
        Check.due("by thinner fog", fog.litIn(29), 8);
        Check.due("fog of now", fog.why(0, 29), 3);
        Check.due("near", fog.litIn(23), 8);
        fog.light(0, 0, 1);
        Check.due("a turn and more", fog.litIn(29), 7);
        fog.light(0, 0, 2);
        Check.due("too early, then", fog.litIn(29), 14);
        fog.light(0, 2, 7);
        fog.light(0, 0, 0);
        Check.due("second turn", fog.litIn(29), 16);
        fog.light(0, 0, 3);
        Check.due("fog gone in 13", fog.litIn(29), 13);
        fog.light(0, 1, 2);
        Check.due("never by its pace", fog.litIn(29), BeamKeepers.NONE);
        fog.light(0, 2, 6);
        Check.due("beyond its range", fog.litIn(29), BeamKeepers.NONE);
        String before = Check.told(fog);
        fog.litIn(29);
        Check.same("litIn", fog, before);
    }

    private static BeamKeepers sea() {
        BeamKeepers game = new BeamKeepers();
        for (int i = 0; i < 4; i++) {
            game.light(i, 3, 255);
        }
        return game;
    }

    private static void wouldBeWrecked() {
        BeamKeepers game = sea();
        for (int hours : new int[] {0, -1, 41, Integer.MIN_VALUE, Integer.MAX_VALUE}) {
            Check.due("ifPassed " + hours, game.ifPassed(hours), BeamKeepers.BAD_VALUE);
        }
        Check.due("no ships", game.ifPassed(40), 0);
        game.rock(3);
        game.rock(95);
        game.ship(5, 0, 9);
        game.ship(6, 90, 99);
        game.ship(7, 50, 59);
        int[] due = {0, 0, 1, 1, 3, 3};
        for (int hours = 1; hours <= due.length; hours++) {
            Check.due("ifPassed " + hours, game.ifPassed(hours), due[hours - 1]);
        }
        Check.due("ifPassed 40", game.ifPassed(40), 3);
        Check.due("hour", game.count(0), 0);
        game.pass(3);
        Check.due("wrecks are not told again", game.ifPassed(40), 2);
        // Forty hours, where pass() takes twenty.
        BeamKeepers slow = new BeamKeepers();
        for (int i = 0; i < 8; i++) {
            slow.ship(9 - i, 10 * i + (i == 2 || i == 7 ? 1 : 0), 9);
        }
        BeamKeepers model = new BeamKeepers();
        for (int i = 0; i < 8; i++) {
            model.ship(9 - i, 10 * i + (i == 2 || i == 7 ? 1 : 0), 9);
        }
        slow.rock(6);
        model.rock(6);
        for (int hours = 1; hours <= 40; hours++) {
            model.pass(1);
            int set = 0;
            for (int i = 0; i < 8; i++) {
                set |= model.shipOf(i, 3) == 2 ? 1 << i : 0;
            }
            Check.due("as pass does, " + hours, slow.ifPassed(hours), set);
        }
        // The fog of then, not of now: light 0 comes round to the east in hour 8 without fog.
        BeamKeepers fog = new BeamKeepers();
        fog.light(0, 0, 4);
        fog.light(1, 3, 255);
        fog.card(1, 0);
        fog.rock(25);
        fog.ship(9, 21, 29);
        int seen = fog.ifPassed(9);
        fog.pass(9);
        Check.due("by the fog of then", seen, fog.shipOf(0, 3) == 2 ? 1 : 0);
    }

    private static void bestCards() {
        BeamKeepers game = new BeamKeepers();
        for (int keeper : new int[] {-1, 4, Integer.MIN_VALUE, Integer.MAX_VALUE}) {
            Check.due("bestCard " + keeper, game.bestCard(keeper), BeamKeepers.UNKNOWN);
        }
        Check.due("no ships", game.bestCard(0), BeamKeepers.NONE);
        lowestOfSeveral();
        mostWorth();
        tenHours();
        wreckedAnyhow();
    }

    /**
     * With pace 2 the light i shines on the rocks in 44 and 55 in each hour h with h mod 4 = i,
     * so that the ships ahead of them wait for ever. A card of now is 3 of fog in the hour 0 of
     * light 0, 2 in that of light 1, 1 in that of light 2, and gone in that of light 3.
     */
    private static BeamKeepers heldForEver(int[] ranges) {
        BeamKeepers game = new BeamKeepers();
        int[] start = {1, 1, 3, 7};
        for (int i = 0; i < 4; i++) {
            game.light(i, 0, start[i]);
            game.light(i, 1, 2);
            game.light(i, 2, ranges[i]);
        }
        return game;
    }

    private static void lowestOfSeveral() {
        BeamKeepers game = heldForEver(new int[] {2, 3, 3, 3});
        game.ship(60, 35, 53);
        game.rock(44);
        Check.due("held for ever", game.ifPassed(40), 0);
        int[] best = {1, 0, 0, 0};
        for (int keeper = 0; keeper < 4; keeper++) {
            Check.due("bestCard " + keeper, game.bestCard(keeper), best[keeper]);
        }
        Check.due("nothing is laid", game.lightOf(0, 4), 0);
        Check.due("no card is gone", game.keeperOf(2, 2), 3);
        // Without a card there is none, though one would help.
        game.card(1, 3);
        game.card(1, 3);
        game.card(1, 3);
        game.pass(8);
        game.light(3, 2, 9);
        Check.due("no card", game.bestCard(1), BeamKeepers.NONE);
        Check.due("held or not", game.shipOf(0, 3), 2);
        BeamKeepers poor = heldForEver(new int[] {2, 3, 3, 3});
        for (int i = 0; i < 3; i++) {
            poor.card(1, 3);
            poor.pass(20);
            poor.pass(20);
        }
        poor.ship(60, 35, 53);
        poor.rock(44);
        Check.due("held for ever", poor.ifPassed(40), 0);
        Check.due("one with a card", poor.bestCard(2), 0);
        Check.due("no card", poor.bestCard(1), BeamKeepers.NONE);
    }

    private static void mostWorth() {
        // The rock in 44 is 2 from light 0, that in 55 is 3: fog of 3 hides only the second one.
        BeamKeepers game = heldForEver(new int[] {5, 4, 4, 3});
        game.ship(60, 35, 53);
        game.ship(10, 46, 64);
        game.rock(44);
        game.rock(55);
        Check.due("held for ever", game.ifPassed(40), 0);
        int[] best = {1, 0, 1, 1};
        for (int keeper = 0; keeper < 4; keeper++) {
            Check.due("bestCard " + keeper, game.bestCard(keeper), best[keeper]);
        }
    }

    /** A ship that comes to its rock in the seventh hour and is held there by one light an hour. */
    private static BeamKeepers heldFromHour6() {
        BeamKeepers game = new BeamKeepers();
        int[] start = {1, 6, 6, 5};
        int[] range = {4, 5, 7, 7};
        for (int i = 0; i < 4; i++) {
            game.light(i, 0, start[i]);
            game.light(i, 2, range[i]);
        }
        game.card(1, 0);
        game.card(2, 0);
        game.ship(60, 74, 4);
        game.rock(4);
        return game;
    }

    private static void tenHours() {
        BeamKeepers game = heldFromHour6();
        Check.due("not in ten hours", game.ifPassed(10), 0);
        Check.due("in the eleventh", game.ifPassed(11), 1);
        Check.due("sooner by a card", game.bestCard(3), 0);
        Check.due("not on its own light", game.bestCard(0), BeamKeepers.NONE);
        // Light 3 is the one that holds it in the tenth hour.
        game.light(3, 3, 64);
        Check.due("in ten hours", game.ifPassed(10), 1);
        Check.due("not in nine", game.ifPassed(9), 0);
        Check.due("no more by a card", game.bestCard(3), BeamKeepers.NONE);
        // With one more of range light 0 reaches the rock through the fog.
        BeamKeepers far = heldFromHour6();
        far.light(0, 2, 5);
        Check.due("seen all the same", far.bestCard(3), BeamKeepers.NONE);
    }

    private static void wreckedAnyhow() {
        // What is wrecked without a card counts for none of them; nor does a wreck that was.
        BeamKeepers game = sea();
        game.ship(60, 35, 53);
        game.rock(44);
        Check.due("anyhow", game.bestCard(0), BeamKeepers.NONE);
        game.pass(1);
        Check.due("a wreck", game.bestCard(0), BeamKeepers.NONE);
    }
}
