/** Promises 6 to 8 and 17: card, pass, wage, keeperOf. */
public final class KeeperTest {
    public static void main(String[] args) {
        cards();
        wages();
        wrongHours();
        fogThins();
        courses();
        waitsAndWrecks();
        orderOfShips();
        debts();
        nearestOwes();
        Check.end();
    }

    private static void cards() {
        BeamKeepers game = new BeamKeepers();
        int[][] out = {{-1, 0}, {4, 0}, {0, -1}, {0, 4}, {-1, -1}, {Integer.MAX_VALUE, 0}, {0, Integer.MIN_VALUE}};
        for (int[] pair : out) {
            Check.due("card out", game.card(pair[0], pair[1]), BeamKeepers.UNKNOWN);
        }
        for (int i = 0; i < 4; i++) {
            Check.due("own light", game.card(i, i), BeamKeepers.NOT_POSSIBLE);
        }
        Check.due("no act", game.count(11), 0);
        Check.due("card", game.card(3, 0), 3);
        Check.due("an act", game.count(11), 1);
        Check.due("its fog", game.lightOf(0, 4), 3);
        Check.due("other fog", game.lightOf(1, 4), 0);
        Check.due("cards of 3", game.keeperOf(3, 2), 2);
        Check.due("cards of 0", game.keeperOf(0, 2), 3);
        game.pass(2);
        Check.due("fog 1 and 3", game.card(3, 0), 4);
        Check.due("fog 4 and 3", game.card(2, 0), 7);
        Check.due("9 at most", game.card(2, 0), 9);
        int states = game.count(11);
        Check.due("fog is 9", game.card(1, 0), BeamKeepers.NOT_POSSIBLE);
        Check.due("card is kept", game.keeperOf(1, 2), 3);
        Check.due("no state", game.count(11), states);
        Check.due("last card", game.card(2, 1), 3);
        Check.due("no card", game.card(2, 1), BeamKeepers.NOT_POSSIBLE);
        Check.due("no card left", game.keeperOf(2, 2), 0);
        game.undo();
        Check.due("card is back", game.keeperOf(2, 2), 1);
        Check.due("fog is gone", game.lightOf(1, 4), 0);
    }

    private static void wages() {
        BeamKeepers game = new BeamKeepers();
        Check.due("wage -1", game.wage(-1), BeamKeepers.BAD_VALUE);
        Check.due("wage 10", game.wage(10), BeamKeepers.BAD_VALUE);
        Check.due("same", game.wage(2), BeamKeepers.NONE);
        Check.due("no act", game.count(11), 0);
        int previous = 2;
        for (int wage : new int[] {0, 9, 1}) {
            Check.due("wage", game.wage(wage), previous);
            Check.due("count 13", game.count(13), wage);
            previous = wage;
        }
        Check.due("acts", game.count(11), 3);
        game.undo();
        Check.due("undo", game.count(13), 9);
        game.pass(2);
        for (int i = 0; i < 4; i++) {
            Check.due("coins", game.keeperOf(i, 0), 18);
        }
        for (int keeper : new int[] {-1, 4, Integer.MAX_VALUE, Integer.MIN_VALUE}) {
            Check.due("keeperOf out", game.keeperOf(keeper, 9), BeamKeepers.UNKNOWN);
        }
        for (int what : new int[] {-1, 5, Integer.MAX_VALUE, Integer.MIN_VALUE}) {
            Check.due("keeperOf what", game.keeperOf(0, what), BeamKeepers.BAD_VALUE);
        }
    }

    private static void wrongHours() {
        BeamKeepers game = new BeamKeepers();
        for (int hours : new int[] {0, -1, 21, Integer.MIN_VALUE, Integer.MAX_VALUE}) {
            Check.due("pass " + hours, game.pass(hours), BeamKeepers.BAD_VALUE);
        }
        Check.due("no act", game.count(11), 0);
        Check.due("pass 1", game.pass(1), 0);
        Check.due("pass 20", game.pass(20), 0);
        Check.due("hour", game.count(0), 21);
        Check.due("acts", game.count(11), 2);
        Check.write(game, "h20;h20;h20;h20;h20;h20;h20;h20;h20;h20;h20;h20;h20;h20;h20");
        for (int i = 0; i < 33; i++) {
            game.doAll();
        }
        Check.due("hour", game.count(0), 9921);
        for (int i = 0; i < 3; i++) {
            game.pass(20);
        }
        Check.due("hour", game.count(0), 9981);
        Check.due("to 10001", game.pass(20), BeamKeepers.FULL);
        Check.due("to 10000", game.pass(19), BeamKeepers.FULL);
        Check.due("bad ahead of full", game.pass(21), BeamKeepers.BAD_VALUE);
        Check.due("to 9999", game.pass(18), 0);
        Check.due("hour", game.count(0), 9999);
        Check.due("beyond", game.pass(1), BeamKeepers.FULL);
        Check.due("hour stays", game.count(0), 9999);
        Check.due("coins", game.keeperOf(3, 0), 2 * 9999);
        // Beyond the last hour it is still told what would be.
        game.ship(8, 0, 2);
        game.rock(1);
        Check.due("foreseen", game.ifPassed(1), 1);
        Check.due("next lit", game.litIn(1), 7);
    }

    private static void fogThins() {
        BeamKeepers game = new BeamKeepers();
        game.card(0, 1);
        game.card(0, 1);
        game.card(0, 2);
        int[] fog = {6, 5, 4, 3, 2, 1, 0, 0};
        for (int hour = 0; hour < fog.length; hour++) {
            Check.due("fog of 1", game.lightOf(1, 4), fog[hour]);
            Check.due("fog of 2", game.lightOf(2, 4), Math.max(0, 3 - hour));
            Check.due("fog of 0", game.lightOf(0, 4), 0);
            game.pass(1);
        }
    }

    private static void courses() {
        // Both x and y change, until one is alike; all ways.
        int[][] courses = {
            {0, 35, 11, 22, 33, 34, 35}, {99, 94, 98, 97, 96, 95, 94}, {90, 72, 81, 72, 72, 72, 72},
            {9, 50, 18, 27, 36, 45, 54}, {5, 45, 15, 25, 35, 45, 45}, {95, 50, 84, 73, 62, 51, 50},
        };
        for (int[] course : courses) {
            BeamKeepers game = new BeamKeepers();
            game.ship(10, course[0], course[1]);
            for (int i = 2; i < course.length; i++) {
                int steps = game.shipOf(0, 5);
                Check.due("pass", game.pass(1), 0);
                Check.due("cell", game.shipOf(0, 1), course[i]);
                Check.due("steps", game.shipOf(0, 5), Math.max(0, steps - 1));
                Check.due("home", game.shipOf(0, 3), course[i] == course[1] ? 1 : 0);
                Check.due("waited", game.shipOf(0, 4), 0);
            }
        }
    }

    private static BeamKeepers dark() {
        BeamKeepers game = new BeamKeepers();
        for (int i = 0; i < 4; i++) {
            game.light(i, 3, 255);
        }
        return game;
    }

    private static void waitsAndWrecks() {
        // Light 0 lights the rock in 24 from hour 0 on in each eighth hour: the ship waits once.
        BeamKeepers game = new BeamKeepers();
        game.light(1, 3, 255);
        game.rock(24);
        game.ship(30, 15, 33);
        Check.due("lit", game.cellOf(24, 2), 1);
        Check.due("it waits", game.pass(1), 0);
        Check.due("its cell", game.shipOf(0, 1), 15);
        Check.due("waited", game.shipOf(0, 4), 1);
        Check.due("at sea", game.shipOf(0, 3), 0);
        Check.due("it is wrecked", game.pass(1), 1);
        Check.due("its cell", game.shipOf(0, 1), 24);
        Check.due("wrecked", game.shipOf(0, 3), 2);
        Check.due("waited", game.shipOf(0, 4), 1);
        Check.due("steps of the wreck", game.shipOf(0, 5), 1);
        Check.due("no place", game.shipOf(0, 6), BeamKeepers.NONE);
        Check.due("once only", game.pass(5), 0);
        Check.due("waited no more", game.shipOf(0, 4), 1);
        // A rock in the harbour itself.
        BeamKeepers harbour = dark();
        harbour.ship(5, 0, 1);
        harbour.rock(1);
        Check.due("wrecked in the harbour", harbour.pass(1), 1);
        Check.due("wrecked", harbour.shipOf(0, 3), 2);
        // A rock on its own cell does not hold it.
        BeamKeepers own = dark();
        own.ship(5, 0, 2);
        own.rock(0);
        Check.due("leaves its rock", own.pass(1), 0);
        Check.due("left", own.shipOf(0, 1), 1);
        // A ship ahead, on an unlit rock: it waits all the same.
        BeamKeepers ahead = dark();
        ahead.ship(5, 1, 9);
        ahead.ship(9, 0, 2);
        ahead.rock(1);
        Check.due("waits ahead of a rock", ahead.pass(1), 0);
        Check.due("waited", ahead.shipOf(1, 4), 1);
        Check.due("then is wrecked", ahead.pass(1), 1);
        // Wrecks and ships at home do not stand in the way.
        BeamKeepers free = dark();
        free.ship(5, 0, 1);
        free.ship(4, 10, 1);
        free.ship(3, 20, 2);
        free.rock(11);
        Check.due("none", free.pass(1), 1);
        Check.due("home 0", free.shipOf(0, 3), 1);
        Check.due("home 1", free.shipOf(1, 3), 1);
        Check.due("wreck 2", free.shipOf(2, 3), 2);
    }

    private static void orderOfShips() {
        // The one of the greatest worth first: it frees its cell for the others behind it.
        BeamKeepers game = dark();
        game.ship(5, 0, 9);
        game.ship(50, 1, 9);
        game.ship(50, 2, 9);
        game.ship(99, 3, 9);
        int[] place = {3, 1, 2, 0};
        for (int i = 0; i < 4; i++) {
            Check.due("place", game.shipOf(i, 6), place[i]);
        }
        game.pass(1);
        int[] cell = {0, 1, 3, 4};
        int[] waited = {1, 1, 0, 0};
        for (int i = 0; i < 4; i++) {
            // Ship 1 goes ahead of ship 2, so it waits; ship 0 goes last, and waits behind it.
            Check.due("cell", game.shipOf(i, 1), cell[i]);
            Check.due("waited", game.shipOf(i, 4), waited[i]);
        }
        // Places are among those at sea.
        BeamKeepers other = dark();
        other.ship(9, 0, 1);
        other.ship(8, 50, 59);
        other.ship(9, 60, 69);
        Check.due("place of 2", other.shipOf(2, 6), 1);
        other.pass(1);
        Check.due("place of 0", other.shipOf(0, 6), BeamKeepers.NONE);
        Check.due("place of 2", other.shipOf(2, 6), 0);
        Check.due("place of 1", other.shipOf(1, 6), 1);
        other.undo();
        Check.due("place of 2 again", other.shipOf(2, 6), 1);
    }

    private static void debts() {
        BeamKeepers game = dark();
        game.wage(3);
        game.rock(1);
        game.ship(7, 0, 2);
        game.ship(1, 11, 2);
        game.pass(1);
        // The wage of the hour of the wreck pays already.
        int[][] hours = {{0, 4, 1, 3}, {0, 1, 1, 6}, {2, 0, 1, 7}, {5, 0, 1, 7}};
        for (int[] hour : hours) {
            Check.due("coins", game.keeperOf(0, 0), hour[0]);
            Check.due("debt", game.keeperOf(0, 1), hour[1]);
            Check.due("wrecks", game.keeperOf(0, 3), hour[2]);
            Check.due("paid", game.keeperOf(0, 4), hour[3]);
            Check.due("all debts", game.count(8), hour[1]);
            Check.due("all paid", game.count(9), hour[3]);
            Check.due("worth home", game.count(10), 1);
            game.pass(1);
        }
        // Coins that were saved pay, too.
        BeamKeepers rich = dark();
        rich.pass(20);
        rich.rock(98);
        rich.ship(99, 99, 97);
        rich.pass(1);
        Check.due("coins", rich.keeperOf(3, 0), 0);
        Check.due("debt", rich.keeperOf(3, 1), 99 - 42);
        Check.due("paid", rich.keeperOf(3, 4), 42);
        Check.due("others' coins", rich.keeperOf(2, 0), 42);
        // Two wrecks in one hour.
        BeamKeepers two = dark();
        two.wage(0);
        two.rock(98);
        two.ship(20, 99, 97);
        two.ship(30, 89, 97);
        Check.due("two wrecks", two.pass(1), 2);
        Check.due("debt of both", two.keeperOf(3, 1), 50);
        Check.due("two owed", two.keeperOf(3, 3), 2);
    }

    private static void nearestOwes() {
        for (int cell = 0; cell < 100; cell++) {
            BeamKeepers game = dark();
            if (game.rock(cell) < 0) {
                continue;
            }
            // A rock that came to the harbour itself.
            game.rock(cell);
            game.ship(40, cell % 10 == 9 ? cell - 1 : cell + 1, cell);
            game.rock(cell);
            Check.due("wrecked in " + cell, game.ifPassed(1), 1);
            game.pass(1);
            int owing = game.cellOf(cell, 3);
            for (int i = 0; i < 4; i++) {
                Check.due("debt by " + cell, game.keeperOf(i, 1), i == owing ? 38 : 0);
            }
        }
    }
}
