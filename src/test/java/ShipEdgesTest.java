/** The edges that "SHIPS" and promises 4, 7, 15 and 18 name. */
public final class ShipEdgesTest {
    private static final int[] FAR = {Integer.MIN_VALUE, Integer.MAX_VALUE};
    private static final int UNKNOWN = BeamKeepers.UNKNOWN;
    private static final int BAD_VALUE = BeamKeepers.BAD_VALUE;
    private static final int FULL = BeamKeepers.FULL;
    private static final int NOT_POSSIBLE = BeamKeepers.NOT_POSSIBLE;
    private static final int NONE = BeamKeepers.NONE;

    public static void main(String[] args) {
        eightShips();
        eightShipsOfAnyKind();
        leastAndMostWorth();
        fromAndToTheSameCell();
        rocksInItsCells();
        shipsInItsCells();
        conditions();
        greatestWorthFirst();
        lowestOfSeveral();
        aStep();
        waitsByALitRock();
        litInTheHourOfNow();
        waitsByAShipWhateverElse();
        noWaitingForWrecksAndHomes();
        home();
        rocksOfHarbours();
        owedByTheNearest();
        noCellIsBetweenTwo();
        noSuchShip();
        noSuchWhatOfAShip();
        noSuchWhatOfACell();
        placesOfShips();
        waitingSoFar();
        steps();
        Check.end();
    }

    private static void fleet(BeamKeepers game, int ships) {
        for (int i = 0; i < ships; i++) {
            game.ship(10 + i, 10 * i, 9);
        }
    }

    // "There are at most 8 ships, numbered from 0."
    private static void eightShips() {
        BeamKeepers game = new BeamKeepers();
        for (int i = 0; i < 8; i++) {
            Check.due("ships", game.count(2), i);
            Check.due("none of that number", game.shipOf(i, 0), UNKNOWN);
            Check.due("number", game.ship(10 + i, 10 * i, 9), i);
            Check.due("its worth", game.shipOf(i, 0), 10 + i);
        }
        Check.due("eight", game.count(2), 8);
        Look.act("the eighth", g -> fleet(g, 7), g -> g.ship(5, 99, 9), 7);
        Look.refused("the ninth", g -> fleet(g, 8), g -> g.ship(5, 99, 9), FULL);
        Look.act("the eighth by a text", g -> {
            fleet(g, 7);
            Look.write(g, "s5:99>09");
        }, g -> g.doAll(), 1);
        Look.refused("the ninth by a text", g -> {
            fleet(g, 7);
            Look.write(g, "s5:99>09;s5:98>09");
        }, g -> g.doAll(), FULL);
        // The number is free again when the ship is undone.
        game.undo();
        Check.due("seven", game.count(2), 7);
        Check.due("the eighth again", game.ship(5, 99, 9), 7);
        Check.due("its worth", game.shipOf(7, 0), 5);
    }

    // Wrecks and ships at home are ships, too.
    private static void eightShipsOfAnyKind() {
        Look.Script ended = game -> {
            Look.dark(game);
            for (int i = 0; i < 8; i++) {
                game.ship(10 + i, 90 + i, 80 + i);
            }
            for (int i = 0; i < 8; i += 2) {
                game.rock(80 + i);
            }
            game.pass(1);
        };
        BeamKeepers game = Look.made(ended);
        Check.due("none at sea", game.count(3), 0);
        Check.due("home", game.count(4), 4);
        Check.due("wrecked", game.count(5), 4);
        Check.due("all", game.count(2), 8);
        Look.refused("the ninth", ended, g -> g.ship(5, 0, 1), FULL);
    }

    // "A worth (1 to 99)."
    private static void leastAndMostWorth() {
        Look.act("worth 1", Look::busy, game -> game.ship(1, 5, 6), 5);
        Look.act("worth 99", Look::busy, game -> game.ship(99, 5, 6), 5);
        Look.refused("worth 0", Look::busy, game -> game.ship(0, 5, 6), BAD_VALUE);
        Look.refused("worth 100", Look::busy, game -> game.ship(100, 5, 6), BAD_VALUE);
        Look.refused("worth -1", Look::busy, game -> game.ship(-1, 5, 6), BAD_VALUE);
        for (int far : FAR) {
            Look.refused("worth " + far, Look::busy, game -> game.ship(far, 5, 6), BAD_VALUE);
        }
        BeamKeepers game = new BeamKeepers();
        game.ship(1, 0, 9);
        game.ship(99, 10, 19);
        Check.due("least", game.shipOf(0, 0), 1);
        Check.due("most", game.shipOf(1, 0), 99);
    }

    // "NOT_POSSIBLE if both are the same, ..."
    private static void fromAndToTheSameCell() {
        for (int cell : new int[] {0, 22, 99}) {
            Look.refused("from " + cell + " to it", Look::busy, game -> game.ship(5, cell, cell), NOT_POSSIBLE);
        }
        Look.act("to the next one", Look::busy, game -> game.ship(5, 99, 98), 5);
        Look.act("with x and y changed", Look::busy, game -> game.ship(5, 12, 21), 5);
    }

    // "... a rock is in one of them, ..."
    private static void rocksInItsCells() {
        Look.refused("from a rock", Look::busy, game -> game.ship(5, 88, 5), NOT_POSSIBLE);
        Look.refused("to a rock", Look::busy, game -> game.ship(5, 5, 88), NOT_POSSIBLE);
        Look.refused("from a rock to one", Look::busy, game -> game.ship(5, 33, 88), NOT_POSSIBLE);
        Look.act("beside a rock", Look::busy, game -> game.ship(5, 87, 89), 5);
        Look.act("where a rock was", game -> {
            Look.busy(game);
            game.rock(88);
        }, game -> game.ship(5, 88, 32), 5);
    }

    // "... or a ship at sea is in the cell."
    private static void shipsInItsCells() {
        BeamKeepers busy = Look.made(Look::busy);
        Check.due("a ship at sea", busy.cellOf(32, 1), 4);
        Look.refused("on a ship at sea", Look::busy, game -> game.ship(5, 32, 5), NOT_POSSIBLE);
        Look.act("to a ship at sea", Look::busy, game -> game.ship(5, 5, 32), 5);
        Look.act("where one is home", Look::busy, game -> game.ship(5, 97, 5), 5);
        Look.act("to where one is home", Look::busy, game -> game.ship(5, 5, 97), 5);
        Look.act("to another one's harbour", Look::busy, game -> game.ship(5, 5, 9), 5);
        Look.refused("on a wreck on its rock", Look::busy, game -> game.ship(5, 1, 5), NOT_POSSIBLE);
        Look.act("on a wreck without its rock", game -> {
            Look.busy(game);
            game.rock(1);
        }, game -> game.ship(5, 1, 5), 5);
    }

    // "At sea (0), home (1) or wrecked (2)."
    private static void conditions() {
        BeamKeepers game = Look.made(Look::busy);
        int[] due = {2, 0, 0, 1, 0};
        int[] cells = {1, 51, 53, 97, 32};
        for (int i = 0; i < 5; i++) {
            Check.due("how ship " + i + " is", game.shipOf(i, 3), due[i]);
            Check.due("its cell", game.shipOf(i, 1), cells[i]);
            Check.due("the ship at sea there", game.cellOf(cells[i], 1), due[i] == 0 ? i : NONE);
        }
        Check.due("at sea", game.count(3), 3);
        Check.due("home", game.count(4), 1);
        Check.due("wrecked", game.count(5), 1);
        Check.due("worth home", game.count(10), 7);
    }

    // "The one of the greatest worth first": it leaves its cell to the ones behind it.
    private static void greatestWorthFirst() {
        for (int first = 1; first <= 98; first += 97) {
            for (int more = 0; more <= 1; more++) {
                BeamKeepers game = new BeamKeepers();
                game.ship(first + 1 - more, 50, 59);
                game.ship(first + more, 51, 59);
                Check.due("place of the one behind", game.shipOf(0, 6), more);
                Check.due("place of the one ahead", game.shipOf(1, 6), 1 - more);
                game.pass(1);
                Check.due("the one behind", game.shipOf(0, 1), more == 1 ? 51 : 50);
                Check.due("it waited", game.shipOf(0, 4), 1 - more);
                Check.due("the one ahead", game.shipOf(1, 1), 52);
            }
        }
        // A whole line of eight, each one worth more than the one behind it: all go.
        BeamKeepers line = new BeamKeepers();
        for (int i = 0; i < 8; i++) {
            line.ship(20 + i, 10 * i, 90);
        }
        Check.due("pass", line.pass(1), 0);
        for (int i = 0; i < 8; i++) {
            Check.due("place", line.shipOf(i, 6), 7 - i);
            Check.due("gone", line.shipOf(i, 1), 10 * i + 10);
        }
        // And each worth less: the last one alone.
        BeamKeepers held = new BeamKeepers();
        for (int i = 0; i < 8; i++) {
            held.ship(20 - i, 10 * i, 90);
        }
        held.pass(1);
        for (int i = 0; i < 8; i++) {
            Check.due("place", held.shipOf(i, 6), i);
            Check.due("held", held.shipOf(i, 1), i == 7 ? 80 : 10 * i);
        }
    }

    // "Of several the lowest."
    private static void lowestOfSeveral() {
        for (int worth = 1; worth <= 99; worth += 49) {
            BeamKeepers ahead = new BeamKeepers();
            ahead.ship(worth, 51, 59);
            ahead.ship(worth, 50, 59);
            ahead.pass(1);
            Check.due("the lowest is ahead", ahead.shipOf(0, 1), 52);
            Check.due("and the other one follows", ahead.shipOf(1, 1), 51);
            BeamKeepers behind = new BeamKeepers();
            behind.ship(worth, 50, 59);
            behind.ship(worth, 51, 59);
            behind.pass(1);
            Check.due("the lowest is behind", behind.shipOf(0, 1), 50);
            Check.due("and waits", behind.shipOf(0, 4), 1);
            Check.due("the other one goes", behind.shipOf(1, 1), 52);
        }
        // Two that want the same cell.
        BeamKeepers same = new BeamKeepers();
        same.ship(7, 50, 59);
        same.ship(7, 60, 59);
        same.ship(8, 40, 69);
        same.pass(1);
        Check.due("the greatest has it", same.shipOf(2, 1), 51);
        Check.due("the lowest waits", same.shipOf(0, 4), 1);
        Check.due("the other waits", same.shipOf(1, 4), 1);
        same.pass(1);
        Check.due("then the lowest", same.shipOf(0, 1), 51);
        Check.due("the other waits", same.shipOf(1, 4), 2);
    }

    // "Its x changes by 1 towards that of the harbour, if it is unlike, and its y likewise."
    private static void aStep() {
        int[][] steps = {
            {44, 49, 45}, {44, 40, 43}, {44, 94, 54}, {44, 4, 34}, {44, 99, 55}, {44, 90, 53}, {44, 9, 35},
            {44, 0, 33}, {44, 59, 55}, {44, 95, 55}, {44, 30, 33}, {44, 3, 33}, {44, 45, 45}, {44, 33, 33},
        };
        for (int[] step : steps) {
            BeamKeepers game = new BeamKeepers();
            game.ship(5, step[0], step[1]);
            game.pass(1);
            Check.due("from 44 towards " + step[1], game.shipOf(0, 1), step[2]);
            Check.due("home", game.shipOf(0, 3), step[1] == step[2] ? 1 : 0);
        }
    }

    /** Light 0 alone, its beam in the east in the hour wanted; a ship beside a rock in 24. */
    private static BeamKeepers besideARock(int eastInHour) {
        BeamKeepers game = new BeamKeepers();
        Look.alone(game);
        game.light(0, 0, (8 - eastInHour) % 8);
        game.rock(24);
        game.ship(30, 15, 33);
        return game;
    }

    // "If the cell is lit in the hour of now, it waits; if it is not lit, it is wrecked there."
    private static void waitsByALitRock() {
        BeamKeepers lit = besideARock(0);
        Check.due("no wreck", lit.pass(1), 0);
        Check.due("it is where it was", lit.shipOf(0, 1), 15);
        Check.due("at sea", lit.shipOf(0, 3), 0);
        Check.due("it waited", lit.shipOf(0, 4), 1);
        Check.due("no debt", lit.count(8), 0);
        BeamKeepers dark = besideARock(4);
        Check.due("a wreck", dark.pass(1), 1);
        Check.due("it is in the rock's cell", dark.shipOf(0, 1), 24);
        Check.due("wrecked", dark.shipOf(0, 3), 2);
        Check.due("it did not wait", dark.shipOf(0, 4), 0);
        Check.due("the rock stays", dark.cellOf(24, 0), 1);
        // A rock ahead that is lit, but not on its course, and a lit cell without a rock.
        BeamKeepers aside = besideARock(0);
        aside.rock(24);
        aside.rock(25);
        Check.due("a lit rock aside", aside.pass(1), 0);
        Check.due("it goes", aside.shipOf(0, 1), 24);
    }

    // The hour of now is that in which the ships go, not the one after it.
    private static void litInTheHourOfNow() {
        for (int east = 0; east < 8; east++) {
            BeamKeepers game = besideARock(east);
            Check.due("lit in hour " + east, game.pass(1), east == 0 ? 0 : 1);
            BeamKeepers more = besideARock(east);
            more.undo();
            more.pass(1);
            more.ship(30, 15, 33);
            Check.due("lit in hour " + east + ", from hour 1", more.pass(1), east == 1 ? 0 : 1);
        }
        // Held for seven hours of eight, wrecked in the eighth.
        BeamKeepers held = new BeamKeepers();
        int[] start = {1, 1, 3, 2};
        for (int i = 0; i < 4; i++) {
            held.light(i, 0, start[i]);
            held.light(i, 1, i == 3 ? 1 : 2);
        }
        held.rock(44);
        held.ship(30, 54, 34);
        Check.due("seven hours", held.pass(7), 0);
        Check.due("waited", held.shipOf(0, 4), 7);
        Check.due("the eighth", held.pass(1), 1);
        Check.due("waited", held.shipOf(0, 4), 7);
    }

    // "A ship waits, too, if another ship at sea is in that cell (whatever else is there)."
    private static void waitsByAShipWhateverElse() {
        for (int what = 0; what < 4; what++) {
            BeamKeepers game = besideARock(what == 1 ? 0 : 4);
            game.undo();
            game.undo();
            game.ship(5, 24, what == 3 ? 25 : 99);
            game.ship(6, 15, what == 2 ? 24 : 33);
            if (what < 2) {
                game.rock(24);
            }
            // 0 an unlit rock, 1 a lit rock, 2 its own harbour, 3 nothing else.
            Check.due("no wreck " + what, game.pass(1), 0);
            Check.due("waits " + what, game.shipOf(1, 1), 15);
            Check.due("waited " + what, game.shipOf(1, 4), 1);
            Check.due("at sea " + what, game.shipOf(1, 3), 0);
        }
    }

    private static void noWaitingForWrecksAndHomes() {
        BeamKeepers homes = new BeamKeepers();
        Look.dark(homes);
        homes.ship(9, 0, 1);
        homes.ship(8, 11, 1);
        homes.ship(7, 2, 1);
        Check.due("none", homes.pass(1), 0);
        Check.due("three in one harbour", homes.count(4), 3);
        BeamKeepers wrecks = new BeamKeepers();
        Look.dark(wrecks);
        wrecks.rock(1);
        wrecks.ship(9, 0, 9);
        wrecks.ship(8, 11, 0);
        wrecks.ship(7, 2, 0);
        Check.due("wrecks in one cell", wrecks.pass(1), 2);
        wrecks.rock(1);
        wrecks.ship(5, 10, 2);
        wrecks.pass(1);
        Check.due("over wrecks without a rock", wrecks.shipOf(3, 1), 1);
    }

    // "A ship that comes into its harbour is home."
    private static void home() {
        BeamKeepers game = new BeamKeepers();
        game.ship(5, 0, 2);
        game.pass(1);
        Check.due("not yet", game.shipOf(0, 3), 0);
        Check.due("no worth home", game.count(10), 0);
        game.pass(1);
        Check.due("home", game.shipOf(0, 3), 1);
        Check.due("in its harbour", game.shipOf(0, 1), 2);
        Check.due("worth home", game.count(10), 5);
        game.rock(2);
        Check.due("no wreck at home", game.pass(20), 0);
        Check.due("home for good", game.shipOf(0, 3), 1);
        Check.due("in its harbour", game.shipOf(0, 1), 2);
        Check.due("not waiting", game.shipOf(0, 4), 0);
        BeamKeepers through = new BeamKeepers();
        through.ship(5, 0, 3);
        through.ship(6, 10, 1);
        through.pass(1);
        Check.due("through another one's harbour", through.shipOf(0, 3), 0);
    }

    // A rock may come to a harbour later: it is a cell as any other.
    private static void rocksOfHarbours() {
        for (int east = 0; east < 8; east += 4) {
            BeamKeepers game = besideARock(east);
            game.undo();
            game.undo();
            game.ship(9, 25, 24);
            game.rock(24);
            Check.due("the harbour's rock", game.pass(1), east == 0 ? 0 : 1);
            Check.due("waits or is wrecked", game.shipOf(0, 3), east == 0 ? 0 : 2);
            Check.due("not home", game.count(4), 0);
            Check.due("steps", game.shipOf(0, 5), east == 0 ? 1 : 0);
        }
        BeamKeepers own = new BeamKeepers();
        Look.dark(own);
        own.ship(5, 0, 2);
        own.rock(0);
        Check.due("a rock that came under it", own.pass(1), 0);
        Check.due("it goes on", own.shipOf(0, 1), 1);
    }

    private static void wreck(int cell, int keeper) {
        BeamKeepers game = new BeamKeepers();
        Look.dark(game);
        game.wage(0);
        int from = cell % 10 == 9 ? cell - 1 : cell + 1;
        game.ship(40, from, cell);
        game.rock(cell);
        Check.due("wreck in " + cell, game.pass(1), 1);
        for (int i = 0; i < 4; i++) {
            Check.due("debt of " + i + " by " + cell, game.keeperOf(i, 1), i == keeper ? 40 : 0);
            Check.due("owed by " + i + " by " + cell, game.keeperOf(i, 3), i == keeper ? 1 : 0);
        }
        Check.due("nearest to " + cell, game.cellOf(cell, 3), keeper);
    }

    // "A wreck is owed by the keeper of the light that is the nearest one to the cell."
    private static void owedByTheNearest() {
        int[][] owed = {
            {0, 0}, {9, 1}, {90, 2}, {99, 3}, {21, 0}, {28, 1}, {71, 2}, {78, 3}, {44, 0}, {45, 1}, {54, 2}, {55, 3},
            {14, 0}, {15, 1}, {84, 2}, {85, 3}, {40, 0}, {50, 2}, {49, 1}, {59, 3},
        };
        for (int[] row : owed) {
            wreck(row[0], row[1]);
        }
    }

    // "By distance; of several the lowest": no cell of this chart is equally near to two lights.
    private static void noCellIsBetweenTwo() {
        for (int cell = 0; cell < 100; cell++) {
            int nearest = 10;
            int lowest = -1;
            boolean alone = false;
            for (int i = 0; i < 4; i++) {
                int east = Math.abs(cell % 10 - (i % 2 == 0 ? 2 : 7));
                int south = Math.abs(cell / 10 - (i < 2 ? 2 : 7));
                int distance = Math.max(east, south);
                alone = distance < nearest || distance > nearest && alone;
                if (distance < nearest) {
                    nearest = distance;
                    lowest = i;
                }
            }
            Check.due("one is the nearest to " + cell, alone ? 1 : 0, 1);
            Check.due("nearest to " + cell, new BeamKeepers().cellOf(cell, 3), lowest);
            if (cell != 22 && cell != 27 && cell != 72 && cell != 77) {
                wreck(cell, lowest);
            }
        }
    }

    // "UNKNOWN: There is no such ship."
    private static void noSuchShip() {
        for (int ship : new int[] {-1, 5, 7, 8, 9, Integer.MIN_VALUE, Integer.MAX_VALUE}) {
            for (int what = 0; what <= 6; what++) {
                int asked = what;
                Look.refused("shipOf " + ship, Look::busy, game -> game.shipOf(ship, asked), UNKNOWN);
            }
        }
        BeamKeepers game = Look.made(Look::busy);
        Check.due("the first", game.shipOf(0, 0), 40);
        Check.due("the last", game.shipOf(4, 0), 8);
        BeamKeepers full = Look.made(g -> fleet(g, 8));
        Check.due("the last of eight", full.shipOf(7, 0), 17);
        Check.due("beyond eight", full.shipOf(8, 0), UNKNOWN);
        Check.due("none at first", new BeamKeepers().shipOf(0, 0), UNKNOWN);
    }

    private static void noSuchWhatOfAShip() {
        for (int what : new int[] {-1, 7, Integer.MIN_VALUE, Integer.MAX_VALUE}) {
            for (int ship = 0; ship < 5; ship++) {
                int asked = ship;
                Look.refused("shipOf what " + what, Look::busy, game -> game.shipOf(asked, what), BAD_VALUE);
            }
        }
        Look.onlyTells("shipOf", Look::busy, game -> game.shipOf(1, 6) + game.shipOf(0, 6));
    }

    private static void noSuchWhatOfACell() {
        for (int what : new int[] {-1, 4, Integer.MIN_VALUE, Integer.MAX_VALUE}) {
            for (int cell : new int[] {0, 22, 32, 99}) {
                Look.refused("cellOf what " + what, Look::busy, game -> game.cellOf(cell, what), BAD_VALUE);
            }
        }
        Look.refused("no ship at sea in it", Look::busy, game -> game.cellOf(0, 1), NONE);
        Look.refused("a wreck in it", Look::busy, game -> game.cellOf(1, 1), NONE);
        Look.refused("a ship at home in it", Look::busy, game -> game.cellOf(97, 1), NONE);
        Look.onlyTells("cellOf", Look::busy, game -> game.cellOf(32, 1) + game.cellOf(32, 2));
    }

    // "Its place in the order in which ships at sea go (NONE if it is not at sea)."
    private static void placesOfShips() {
        int[] due = {NONE, 0, 1, NONE, 2};
        for (int i = 0; i < 5; i++) {
            int ship = i;
            Look.refused("place of " + i, Look::busy, game -> game.shipOf(ship, 6), due[i]);
        }
        BeamKeepers one = new BeamKeepers();
        one.ship(1, 0, 9);
        Check.due("the only one", one.shipOf(0, 6), 0);
        int[] worths = {1, 99, 50, 99, 1, 50, 2, 98};
        int[] places = {6, 0, 3, 1, 7, 4, 5, 2};
        BeamKeepers eight = new BeamKeepers();
        for (int i = 0; i < 8; i++) {
            eight.ship(worths[i], 10 * i, i == 3 ? 31 : 9);
        }
        for (int i = 0; i < 8; i++) {
            Check.due("place of " + i + " of eight", eight.shipOf(i, 6), places[i]);
        }
        eight.pass(1);
        Check.due("home", eight.shipOf(3, 6), NONE);
        for (int i = 0; i < 8; i++) {
            int place = places[i] > 1 ? places[i] - 1 : i == 1 ? 0 : NONE;
            Check.due("place of " + i + " of seven", eight.shipOf(i, 6), place);
        }
    }

    // "Hours that it waited so far", by rocks and by ships; going, coming home and being wrecked are none.
    private static void waitingSoFar() {
        BeamKeepers game = besideARock(0);
        game.ship(20, 70, 79);
        game.ship(10, 90, 99);
        game.pass(1);
        int[] due = {1, 0, 0};
        for (int i = 0; i < 3; i++) {
            Check.due("waited " + i, game.shipOf(i, 4), due[i]);
        }
        BeamKeepers chain = besideARock(0);
        chain.ship(20, 5, 25);
        chain.pass(1);
        Check.due("by the rock", chain.shipOf(0, 4), 1);
        Check.due("by the ship", chain.shipOf(1, 4), 1);
        Check.due("one wreck, and one that comes after it", chain.pass(1), 1);
        Check.due("no more", chain.shipOf(0, 4), 1);
        Check.due("no more", chain.shipOf(1, 4), 1);
        Check.due("behind it", chain.shipOf(1, 1), 15);
        chain.pass(1);
        Check.due("home", chain.shipOf(1, 3), 1);
        chain.pass(20);
        Check.due("a wreck does not wait", chain.shipOf(0, 4), 1);
        Check.due("a ship at home does not wait", chain.shipOf(1, 4), 1);
    }

    // "The steps from its cell to its harbour (also of a wreck)."
    private static void steps() {
        int[][] far = {{0, 1, 1}, {0, 10, 1}, {0, 11, 1}, {0, 9, 9}, {0, 90, 9}, {0, 99, 9}, {0, 27, 7}, {72, 0, 7}, {95, 5, 9}};
        for (int[] row : far) {
            BeamKeepers game = new BeamKeepers();
            game.ship(5, row[0], row[1]);
            Check.due("steps from " + row[0] + " to " + row[1], game.shipOf(0, 5), row[2]);
            game.pass(row[2]);
            Check.due("none at home", game.shipOf(0, 5), 0);
            Check.due("home", game.shipOf(0, 3), 1);
        }
        BeamKeepers busy = Look.made(Look::busy);
        int[] due = {8, 8, 6, 0, 7};
        for (int i = 0; i < 5; i++) {
            Check.due("steps of " + i, busy.shipOf(i, 5), due[i]);
        }
    }
}
