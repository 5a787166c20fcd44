/** The edges that "THE CHART" and promise 2 name. */
public final class ChartEdgesTest {
    static final int[] OUT = {-1, 100, Integer.MIN_VALUE, Integer.MAX_VALUE};
    private static final int[] LIGHT = {22, 27, 72, 77};

    public static void main(String[] args) {
        busyIsBusy();
        firstAndLastCell();
        cellsOutOfTheChart();
        noWayRoundTheChart();
        beamsEndAtTheChart();
        aRockOrNone();
        aFullChart();
        neverARockUnderALight();
        shipsPassLights();
        windBorders();
        ownCellHasNoWind();
        distances();
        Check.end();
    }

    /** What the other tests take for granted of the busy game. */
    private static void busyIsBusy() {
        BeamKeepers game = Look.made(Look::busy);
        int[] count = {2, 3, 5, 3, 1, 1};
        for (int what = 0; what < count.length; what++) {
            Check.due("busy: count " + what, game.count(what), count[what]);
        }
        Check.due("busy: debts", game.count(8), 40 - 2);
        Check.due("busy: paid", game.count(9), 2);
        Check.due("busy: states", game.count(11), 4);
        Check.due("busy: a right text", game.fault(), BeamKeepers.NONE);
        Check.due("busy: fog", game.lightOf(0, 4), 3);
        Check.due("busy: fog", game.lightOf(1, 4), 4);
        Check.due("busy: cards", game.keeperOf(2, 2), 1);
        String now = Check.told(game);
        BeamKeepers kept = Look.made(Look::busy);
        Check.due("busy: snapshot", kept.restore(), 1);
        Check.due("busy: another state", Check.told(kept).equals(now) ? 1 : 0, 0);
        BeamKeepers done = Look.made(Look::busy);
        Check.due("busy: text", done.doAll(), 2);
    }

    // "The chart has 100 cells": 0 and 99 are cells for every call.
    private static void firstAndLastCell() {
        BeamKeepers game = new BeamKeepers();
        Check.due("rock 0", game.rock(0), 1);
        Check.due("rock 99", game.rock(99), 2);
        Check.due("rock in 0", game.cellOf(0, 0), 1);
        Check.due("rock in 99", game.cellOf(99, 0), 1);
        BeamKeepers ships = new BeamKeepers();
        Check.due("ship from 0", ships.ship(1, 0, 99), 0);
        Check.due("ship from 99", ships.ship(1, 99, 0), 1);
        Check.due("ship in 0", ships.cellOf(0, 1), 0);
        Check.due("ship in 99", ships.cellOf(99, 1), 1);
        BeamKeepers told = new BeamKeepers();
        int[][] cellOf = {{0, BeamKeepers.NONE, 0, 0}, {0, BeamKeepers.NONE, 0, 3}};
        for (int what = 0; what < 4; what++) {
            Check.due("cellOf 0 " + what, told.cellOf(0, what), cellOf[0][what]);
            Check.due("cellOf 99 " + what, told.cellOf(99, what), cellOf[1][what]);
        }
        for (int way = 0; way < 2; way++) {
            Check.due("isLit 0", told.isLit(0, 0, 5, way), 1);
            Check.due("isLit 0, an hour later", told.isLit(0, 0, 6, way), 0);
            Check.due("isLit 99", told.isLit(3, 99, 6, way), 1);
            Check.due("isLit 99, an hour later", told.isLit(3, 99, 7, way), 0);
        }
        Check.due("why 0", told.why(0, 0), 4);
        Check.due("why 99", told.why(3, 99), 4);
        Check.due("share 0", told.share(0), 0.125);
        Check.due("share 99", told.share(99), 0.125);
        Check.due("litIn 0", told.litIn(0), 5);
        Check.due("litIn 99", told.litIn(99), 6);
    }

    // "UNKNOWN: There is no such cell"; such a call changes nothing.
    private static void cellsOutOfTheChart() {
        int unknown = BeamKeepers.UNKNOWN;
        for (int out : OUT) {
            Look.refused("rock " + out, Look::busy, game -> game.rock(out), unknown);
            Look.refused("ship from " + out, Look::busy, game -> game.ship(1, out, 5), unknown);
            Look.refused("ship to " + out, Look::busy, game -> game.ship(1, 5, out), unknown);
            for (int what = 0; what < 4; what++) {
                int asked = what;
                Look.refused("cellOf " + out, Look::busy, game -> game.cellOf(out, asked), unknown);
            }
            Look.refused("isLit " + out, Look::busy, game -> game.isLit(0, out, 0, 0), unknown);
            Look.refused("isLit by walk " + out, Look::busy, game -> game.isLit(0, out, 0, 1), unknown);
            Look.refused("why " + out, Look::busy, game -> game.why(0, out), unknown);
            Look.refused("share " + out, Look::busy, game -> game.share(out), -1.0);
            Look.refused("litIn " + out, Look::busy, game -> game.litIn(out), unknown);
        }
    }

    // "x 0 to 9 (to the east) and y 0 to 9 (to the south)": the cell 10 is not beside the cell 9.
    private static void noWayRoundTheChart() {
        int[][] courses = {{9, 10}, {10, 9}, {19, 20}, {89, 90}, {90, 89}, {80, 79}};
        for (int[] course : courses) {
            BeamKeepers game = new BeamKeepers();
            game.ship(5, course[0], course[1]);
            Check.due("steps from " + course[0], game.shipOf(0, 5), 9);
            game.pass(1);
            int middle = game.shipOf(0, 1) % 10;
            Check.due("a step to the other side", middle, course[0] % 10 == 9 ? 8 : 1);
            game.pass(7);
            Check.due("at sea after eight", game.shipOf(0, 3), 0);
            game.pass(1);
            Check.due("home after nine", game.shipOf(0, 3), 1);
            Check.due("in its harbour", game.shipOf(0, 1), course[1]);
        }
        for (int[] course : new int[][] {{4, 94}, {94, 4}, {90, 9}, {9, 90}, {0, 99}, {99, 0}, {50, 59}, {8, 97}}) {
            BeamKeepers far = new BeamKeepers();
            far.ship(5, course[0], course[1]);
            Check.due("from end to end", far.shipOf(0, 5), 9);
            far.pass(9);
            Check.due("home", far.count(4), 1);
        }
    }

    // A beam of range 9 lights what is on the chart in its wind, and nothing on the other side.
    private static void beamsEndAtTheChart() {
        int[][] lit = {
            {1, 0, 27, 28, 19, 29, 39}, {0, 4, 22, 21, 10, 20, 30}, {0, 6, 22, 12, 1, 2, 3},
            {3, 2, 77, 87, 96, 97, 98}, {2, 2, 72, 82, 91, 92, 93}, {2, 4, 72, 71, 60, 70, 80},
            {0, 5, 22, 11, 0}, {1, 7, 27, 18, 9}, {2, 3, 72, 81, 90}, {3, 1, 77, 88, 99},
        };
        for (int[] row : lit) {
            BeamKeepers[] games = {new BeamKeepers(), new BeamKeepers()};
            for (int way = 0; way < 2; way++) {
                BeamKeepers game = games[way];
                game.light(row[0], 2, 9);
                game.light(row[0], 0, row[1]);
                for (int cell = 0; cell < 100; cell++) {
                    boolean due = false;
                    for (int i = 2; i < row.length; i++) {
                        due |= row[i] == cell;
                    }
                    Check.due("light " + row[0] + ", wind " + row[1] + ", cell " + cell + ", way " + way,
                        game.isLit(row[0], cell, 0, way), due ? 1 : 0);
                    Check.due("cellOf", game.cellOf(cell, 2) >> row[0] & 1, due ? 1 : 0);
                }
                Check.due("cells lit", game.lightOf(row[0], 6), row.length - 2);
            }
        }
    }

    // "Each cell has a rock or none."
    private static void aRockOrNone() {
        BeamKeepers game = new BeamKeepers();
        Check.due("none at first", game.count(1), 0);
        Check.due("one", game.rock(10), 1);
        Check.due("two", game.rock(11), 2);
        Check.due("the first is taken away", game.rock(10), 1);
        Check.due("no rock in 10", game.cellOf(10, 0), 0);
        Check.due("rock in 11", game.cellOf(11, 0), 1);
        Check.due("the last is taken away", game.rock(11), 0);
        Check.due("none again", game.count(1), 0);
        for (int cell : new int[] {0, 9, 90, 99, 21, 23, 32, 12, 28, 37, 71, 82, 78, 67}) {
            Look.act("rock " + cell, Look::busy, g -> g.rock(cell), 4);
        }
        Look.act("rock taken away", Look::busy, g -> g.rock(88), 2);
    }

    // 96 cells can have a rock at once.
    private static void aFullChart() {
        BeamKeepers game = new BeamKeepers();
        int rocks = 0;
        for (int cell = 0; cell < 100; cell++) {
            int answer = game.rock(cell);
            rocks += answer > 0 ? 1 : 0;
            Check.due("rock " + cell, answer, isLight(cell) ? BeamKeepers.NOT_POSSIBLE : rocks);
        }
        Check.due("a full chart", game.count(1), 96);
        for (int cell = 0; cell < 100; cell++) {
            Check.due("rock in " + cell, game.cellOf(cell, 0), isLight(cell) ? 0 : 1);
        }
        Check.due("ship from a light to a light", game.ship(1, 22, 77), 0);
        for (int cell = 99; cell >= 0; cell--) {
            if (!isLight(cell)) {
                rocks--;
                Check.due("taken from " + cell, game.rock(cell), rocks);
            }
        }
        Check.due("an empty chart", game.count(1), 0);
    }

    private static boolean isLight(int cell) {
        return cell == LIGHT[0] || cell == LIGHT[1] || cell == LIGHT[2] || cell == LIGHT[3];
    }

    // "There are 4 lights, in the cells 22, 27, 72 and 77; there is never a rock."
    private static void neverARockUnderALight() {
        int not = BeamKeepers.NOT_POSSIBLE;
        for (int cell : LIGHT) {
            Look.refused("rock " + cell, Look::busy, game -> game.rock(cell), not);
            Look.refused("r at " + cell, game -> {
                Look.busy(game);
                game.clearText();
                Look.write(game, "r11;h1;r" + cell % 10 + cell / 10);
            }, game -> game.doAll(), not);
            Check.due("no rock in " + cell, Look.made(Look::busy).cellOf(cell, 0), 0);
        }
        for (int i = 0; i < 4; i++) {
            BeamKeepers game = Look.made(Look::dark);
            for (int cell = 0; cell < 100; cell++) {
                boolean own = cell == LIGHT[i];
                Check.due("light " + i + " is in " + LIGHT[i], game.cellOf(cell, 2) >> i & 1, own ? 1 : 0);
            }
        }
    }

    // "Ships pass a light as any other cell."
    private static void shipsPassLights() {
        for (int cell : LIGHT) {
            BeamKeepers game = new BeamKeepers();
            game.ship(5, cell - 1, cell + 1);
            Check.due("pass", game.pass(1), 0);
            Check.due("in the light's cell", game.shipOf(0, 1), cell);
            Check.due("at sea", game.cellOf(cell, 1), 0);
            game.pass(1);
            Check.due("home behind it", game.shipOf(0, 3), 1);
            Check.due("from a light", game.ship(5, cell, cell - 10), 1);
            Check.due("to a light", game.ship(5, cell + 10, cell), 2);
            game.pass(1);
            Check.due("both home", game.count(4), 3);
            Check.due("without waiting", game.shipOf(1, 4) + game.shipOf(2, 4), 0);
        }
    }

    // "If twice dy is at most dx: east or west; otherwise, if twice dx is at most dy: ..."
    private static void windBorders() {
        // dx, dy and 0 for a wind of the x axis, 1 for one of the y axis, 2 for one between.
        int[][] offsets = {
            {1, 0, 0}, {2, 0, 0}, {2, 1, 0}, {3, 1, 0}, {4, 2, 0}, {5, 2, 0}, {6, 3, 0}, {7, 3, 0}, {7, 0, 0},
            {0, 1, 1}, {0, 2, 1}, {1, 2, 1}, {1, 3, 1}, {2, 4, 1}, {2, 5, 1}, {3, 6, 1}, {3, 7, 1}, {0, 7, 1},
            {1, 1, 2}, {2, 2, 2}, {3, 2, 2}, {2, 3, 2}, {5, 3, 2}, {3, 5, 2}, {7, 4, 2}, {4, 7, 2}, {7, 7, 2},
        };
        int[][] winds = {{0, 2, 1}, {4, 2, 3}, {0, 6, 7}, {4, 6, 5}};
        for (int light = 0; light < 4; light++) {
            int signX = light % 2 == 0 ? 1 : -1;
            int signY = light < 2 ? 1 : -1;
            for (int[] offset : offsets) {
                int cell = LIGHT[light] + signX * offset[0] + 10 * signY * offset[1];
                BeamKeepers game = new BeamKeepers();
                game.light(light, 2, 9);
                game.light(light, 0, 0);
                for (int hour = 0; hour < 8; hour++) {
                    int due = hour == winds[light][offset[2]] ? 1 : 0;
                    Check.due("light " + light + " cell " + cell + " wind " + hour,
                        game.isLit(light, cell, hour, 0), due);
                    Check.due("by walk: light " + light + " cell " + cell + " wind " + hour,
                        game.isLit(light, cell, hour, 1), due);
                }
            }
        }
    }

    // "If both are 0, the light's own cell, none": no dark wind and no range hides it.
    private static void ownCellHasNoWind() {
        for (int i = 0; i < 4; i++) {
            int light = i;
            BeamKeepers game = Look.made(g -> {
                Look.dark(g);
                g.light(light, 2, 1);
                Look.fogged(g, light, 9);
            });
            Check.due("why", game.why(light, LIGHT[light]), 0);
            Check.due("share", game.share(LIGHT[light]), 1.0);
            Check.due("litIn", game.litIn(LIGHT[light]), 0);
            Check.due("itself alone", game.lightOf(light, 6), 1);
            for (int hour = 0; hour < 9; hour++) {
                Check.due("by wind", game.isLit(light, LIGHT[light], hour, 0), 1);
                Check.due("by walk", game.isLit(light, LIGHT[light], hour, 1), 1);
            }
        }
    }

    // "The distance of a cell from a light is the greater one of dx and dy."
    private static void distances() {
        int[][] far = {{1, 0, 1}, {2, 1, 2}, {3, 1, 3}, {3, 3, 3}, {1, 3, 3}, {4, 3, 4}, {3, 4, 4}, {7, 2, 7}, {2, 7, 7}};
        for (int[] row : far) {
            int cell = 22 + row[0] + 10 * row[1];
            BeamKeepers game = new BeamKeepers();
            for (int range = 1; range <= 9; range++) {
                game.light(0, 2, range);
                boolean beyond = range < row[2];
                Check.due("cell " + cell + ", range " + range, game.why(0, cell) == 2 ? 1 : 0, beyond ? 1 : 0);
                Check.due("share of " + cell, litInSomeHour(game, cell), beyond ? 0 : 1);
            }
        }
    }

    private static int litInSomeHour(BeamKeepers game, int cell) {
        int lit = 0;
        for (int hour = 0; hour < 8; hour++) {
            lit += game.isLit(0, cell, hour, 1);
        }
        return lit;
    }
}
