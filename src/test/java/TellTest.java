/** Promises 15, 16 and 18 to 22: cellOf, lightOf, shipOf, isLit, why, count, share. */
public final class TellTest {
    private static final int[] LIGHT = {22, 27, 72, 77};

    public static void main(String[] args) {
        winds();
        nearest();
        cells();
        lights();
        ships();
        litTwoWays();
        whyDark();
        counts();
        fogOfNow();
        corners();
        eightShips();
        shares();
        Check.end();
    }

    private static int windByTurning(int light, int cell) {
        // In an hour of its own for each wind the light lights what is in that wind.
        BeamKeepers game = new BeamKeepers();
        game.light(light, 2, 9);
        int found = -1;
        for (int hour = 0; hour < 8; hour++) {
            if (game.isLit(light, cell, hour, 0) == 1) {
                Check.due("one wind alone", found, -1);
                found = (light + hour) % 8;
            }
        }
        return found;
    }

    private static void winds() {
        for (int y = 0; y < 10; y++) {
            for (int x = 0; x < 10; x++) {
                int dx = x - 2;
                int dy = y - 2;
                if (dx == 0 && dy == 0) {
                    continue;
                }
                Check.due("wind of " + (10 * y + x), windByTurning(0, 10 * y + x), wind(dx, dy));
            }
        }
        // Some that are told one by one, at the borders of the winds.
        int[][] borders = {
            {33, 1}, {34, 0}, {35, 0}, {44, 1}, {45, 1}, {46, 0}, {47, 0}, {43, 2}, {54, 1}, {53, 2}, {64, 2},
            {24, 0}, {20, 4}, {2, 6}, {82, 2}, {11, 5}, {13, 7}, {31, 3}, {1, 6}, {3, 6}, {10, 4}, {30, 4},
            {14, 0}, {4, 7}, {5, 7}, {6, 0}, {40, 3}, {41, 2}, {0, 5}, {75, 1}, {74, 2},
        };
        for (int[] border : borders) {
            Check.due("wind of " + border[0], windByTurning(0, border[0]), border[1]);
        }
    }

    private static int wind(int dx, int dy) {
        int ax = Math.abs(dx);
        int ay = Math.abs(dy);
        if (2 * ay <= ax) {
            return dx > 0 ? 0 : 4;
        }
        if (2 * ax <= ay) {
            return dy > 0 ? 2 : 6;
        }
        return dx > 0 ? (dy > 0 ? 1 : 7) : (dy > 0 ? 3 : 5);
    }

    private static void nearest() {
        BeamKeepers game = new BeamKeepers();
        for (int cell = 0; cell < 100; cell++) {
            int best = 0;
            for (int i = 3; i >= 0; i--) {
                best = distance(i, cell) <= distance(best, cell) ? i : best;
            }
            Check.due("nearest to " + cell, game.cellOf(cell, 3), best);
        }
        Check.due("nearest to 44", game.cellOf(44, 3), 0);
        Check.due("nearest to 45", game.cellOf(45, 3), 1 - 0);
        Check.due("nearest to 54", game.cellOf(54, 3), 2);
        Check.due("nearest to 9", game.cellOf(9, 3), 1);
        Check.due("nearest to 99", game.cellOf(99, 3), 3);
    }

    private static int distance(int light, int cell) {
        return Math.max(Math.abs(cell % 10 - LIGHT[light] % 10), Math.abs(cell / 10 - LIGHT[light] / 10));
    }

    private static void cells() {
        BeamKeepers game = new BeamKeepers();
        for (int cell : new int[] {-1, 100, Integer.MIN_VALUE, Integer.MAX_VALUE}) {
            Check.due("cellOf " + cell, game.cellOf(cell, 9), BeamKeepers.UNKNOWN);
        }
        for (int what : new int[] {-1, 4, Integer.MIN_VALUE, Integer.MAX_VALUE}) {
            Check.due("cellOf what " + what, game.cellOf(0, what), BeamKeepers.BAD_VALUE);
        }
        game.ship(3, 60, 61);
        game.ship(4, 0, 61);
        Check.due("ship 1", game.cellOf(0, 1), 1);
        Check.due("ship 0", game.cellOf(60, 1), 0);
        Check.due("no ship", game.cellOf(61, 1), BeamKeepers.NONE);
        game.pass(1);
        Check.due("home is not at sea", game.cellOf(61, 1), BeamKeepers.NONE);
        Check.due("on its way", game.cellOf(11, 1), 1);
        BeamKeepers all = new BeamKeepers();
        int[] start = {1, 3, 7, 5};
        for (int i = 0; i < 4; i++) {
            all.light(i, 2, 9);
            all.light(i, 0, start[i]);
        }
        Check.due("lit by all", all.cellOf(44, 2), 15);
        Check.due("lit by its own and another", all.cellOf(27, 2), 6);
        all.light(2, 3, 128);
        Check.due("lit by three", all.cellOf(44, 2), 11);
        all.pass(1);
        Check.due("lit by none", all.cellOf(44, 2), 0);
    }

    private static void lights() {
        BeamKeepers game = new BeamKeepers();
        for (int light : new int[] {-1, 4, Integer.MIN_VALUE, Integer.MAX_VALUE}) {
            Check.due("lightOf " + light, game.lightOf(light, 9), BeamKeepers.UNKNOWN);
        }
        for (int what : new int[] {-1, 7, Integer.MIN_VALUE, Integer.MAX_VALUE}) {
            Check.due("lightOf what " + what, game.lightOf(0, what), BeamKeepers.BAD_VALUE);
        }
        game.light(1, 0, 6);
        game.light(1, 1, 3);
        int[] beam = {6, 1, 4, 7, 2, 5, 0, 3, 6};
        for (int hour = 0; hour < beam.length; hour++) {
            Check.due("beam", game.lightOf(1, 5), beam[hour]);
            Check.due("beam of 0", game.lightOf(0, 5), hour % 8);
            game.pass(1);
        }
        // East of light 0 with range 5: 1, 3, 3, 5 and 5 cells, and its own.
        BeamKeepers lit = new BeamKeepers();
        int[] cells = {2, 5, 8, 13, 18, 24, 30, 30, 30};
        for (int range = 1; range <= 9; range++) {
            lit.light(0, 2, range);
            Check.due("range " + range, lit.lightOf(0, 6), cells[range - 1]);
        }
        lit.light(0, 2, 5);
        lit.card(1, 0);
        Check.due("fog", lit.lightOf(0, 6), 5);
        lit.card(1, 0);
        Check.due("more fog than range", lit.lightOf(0, 6), 1);
        BeamKeepers dark = new BeamKeepers();
        dark.light(0, 3, 1);
        Check.due("own cell alone", dark.lightOf(0, 6), 1);
        dark.light(0, 3, 254);
        Check.due("its wind is not dark", dark.lightOf(0, 6), 18);
    }

    private static void ships() {
        BeamKeepers game = new BeamKeepers();
        game.ship(77, 90, 18);
        int[] told = {77, 90, 18, 0, 0, 8, 0};
        for (int what = 0; what < told.length; what++) {
            Check.due("shipOf " + what, game.shipOf(0, what), told[what]);
        }
        for (int ship : new int[] {-1, 1, 8, Integer.MIN_VALUE, Integer.MAX_VALUE}) {
            Check.due("shipOf " + ship, game.shipOf(ship, 9), BeamKeepers.UNKNOWN);
        }
        for (int what : new int[] {-1, 7, Integer.MIN_VALUE, Integer.MAX_VALUE}) {
            Check.due("shipOf what " + what, game.shipOf(0, what), BeamKeepers.BAD_VALUE);
        }
        game.undo();
        Check.due("undone", game.shipOf(0, 0), BeamKeepers.UNKNOWN);
    }

    private static void litTwoWays() {
        BeamKeepers game = new BeamKeepers();
        for (int[] out : new int[][] {{-1, 0}, {4, 0}, {0, -1}, {0, 100}, {Integer.MAX_VALUE, Integer.MIN_VALUE}}) {
            Check.due("isLit out", game.isLit(out[0], out[1], -1, 9), BeamKeepers.UNKNOWN);
        }
        for (int[] out : new int[][] {{-1, 0}, {20001, 0}, {0, -1}, {0, 2}, {Integer.MAX_VALUE, Integer.MIN_VALUE}}) {
            Check.due("isLit bad", game.isLit(0, 0, out[0], out[1]), BeamKeepers.BAD_VALUE);
        }
        Check.due("hour 20000", game.isLit(0, 24, 20000, 0), 1);
        Check.due("hour 20000", game.isLit(0, 24, 20000, 1), 1);
        Check.due("hour 19999", game.isLit(0, 24, 19999, 1), 0);
        game.card(1, 0);
        Check.due("fog of now", game.isLit(0, 25, 800, 0), 0);
        Check.due("fog of now", game.isLit(0, 25, 800, 1), 0);
        Check.due("fog of now", game.isLit(0, 24, 800, 1), 1);
        for (int range = 1; range <= 9; range += 2) {
            for (int fog = 0; fog <= 2; fog++) {
                for (int dark = 0; dark <= 170; dark += 85) {
                    twoWays(range, fog, dark);
                }
            }
        }
    }

    private static void twoWays(int range, int cards, int dark) {
        for (int i = 0; i < 4; i++) {
            BeamKeepers game = null;
            for (int cell = 0; cell < 100; cell++) {
                if (cell % 25 == 0) {
                    game = setUp(i, range, cards, dark);
                }
                for (int hour = 0; hour < 8; hour++) {
                    int beam = (i + hour) % 8;
                    int dx = cell % 10 - LIGHT[i] % 10;
                    int dy = cell / 10 - LIGHT[i] / 10;
                    boolean lit = cell == LIGHT[i] || wind(dx, dy) == beam && (dark >> beam & 1) == 0
                        && distance(i, cell) <= range - 3 * cards;
                    Check.due("isLit by wind", game.isLit(i, cell, hour, 0), lit ? 1 : 0);
                    Check.due("isLit by walk", game.isLit(i, cell, hour, 1), lit ? 1 : 0);
                }
            }
        }
    }

    private static BeamKeepers setUp(int light, int range, int cards, int dark) {
        BeamKeepers game = new BeamKeepers();
        game.light(light, 2, range);
        game.light(light, 3, dark);
        for (int card = 0; card < cards; card++) {
            game.card((light + 1) % 4, light);
        }
        return game;
    }

    private static void whyDark() {
        BeamKeepers game = new BeamKeepers();
        for (int[] out : new int[][] {{-1, 0}, {4, 0}, {0, -1}, {0, 100}, {Integer.MIN_VALUE, Integer.MAX_VALUE}}) {
            Check.due("why out", game.why(out[0], out[1]), BeamKeepers.UNKNOWN);
        }
        Check.due("lit", game.why(0, 27), 0);
        Check.due("own cell", game.why(0, 22), 0);
        Check.due("another wind", game.why(0, 32), 4);
        Check.due("beyond the range", game.why(0, 28), 2);
        Check.due("beyond, and another wind", game.why(0, 82), 2);
        game.card(1, 0);
        Check.due("at range less fog", game.why(0, 24), 0);
        Check.due("in fog", game.why(0, 25), 3);
        Check.due("at the range, in fog", game.why(0, 27), 3);
        Check.due("beyond the range ahead of fog", game.why(0, 28), 2);
        Check.due("in fog, and another wind", game.why(0, 52), 3);
        game.light(0, 3, 1 | 4);
        Check.due("dark", game.why(0, 24), 1);
        Check.due("dark ahead of all", game.why(0, 29), 1);
        Check.due("dark, and another wind", game.why(0, 32), 1);
        Check.due("own cell stays lit", game.why(0, 22), 0);
        Check.due("not dark", game.why(0, 33), 4);
        game.light(0, 3, 0);
        game.pass(1);
        Check.due("it turns", game.why(0, 24), 4);
        Check.due("fog thins", game.why(0, 55), 0);
        Check.due("fog thins", game.why(0, 66), 3);
    }

    private static void counts() {
        BeamKeepers game = new BeamKeepers();
        for (int what : new int[] {-1, 14, Integer.MIN_VALUE, Integer.MAX_VALUE}) {
            Check.due("count " + what, game.count(what), BeamKeepers.BAD_VALUE);
        }
        game.light(1, 3, 255);
        game.light(2, 3, 255);
        game.light(3, 3, 255);
        game.rock(24);
        game.rock(26);
        game.rock(52);
        game.rock(28);
        Check.due("rocks", game.count(1), 4);
        Check.due("lit rocks", game.count(6), 2);
        // 27 is lit by both of its lights, and counts once.
        Check.due("lit cells", game.count(7), 18 + 2);
        game.pass(2);
        Check.due("lit rocks", game.count(6), 1);
        game.ship(9, 0, 1);
        game.ship(20, 90, 91);
        game.ship(5, 15, 33);
        game.ship(6, 9, 5);
        game.pass(1);
        int[] due = {3, 4, 4, 1, 2, 1};
        for (int what = 0; what < due.length; what++) {
            Check.due("count " + what, game.count(what), due[what]);
        }
        Check.due("debts", game.count(8), 0);
        Check.due("paid", game.count(9), 5);
        Check.due("worth home", game.count(10), 29);
        Check.due("states", game.count(11), 4);
        Check.due("wage", game.count(13), 2);
    }

    private static void fogOfNow() {
        // Fog of 1 hides the farthest cell of the range, and no other.
        BeamKeepers game = alone();
        game.card(1, 0);
        game.pass(2);
        game.light(0, 0, 6);
        game.rock(26);
        game.rock(24);
        Check.due("fog", game.lightOf(0, 4), 1);
        Check.due("in range less fog", game.cellOf(26, 2), 1);
        Check.due("beyond it", game.cellOf(27, 2), 2);
        game.rock(37);
        Check.due("beyond it", game.cellOf(37, 2), 0);
        Check.due("lit rocks", game.count(6), 2);
        Check.due("lit cells", game.count(7), 13 + 3);
        Check.due("lit by light 0", game.lightOf(0, 6), 13);
        game.pass(1);
        game.light(0, 0, 5);
        Check.due("no fog", game.cellOf(37, 2), 1);
        Check.due("lit rocks", game.count(6), 3);
        Check.due("lit cells", game.count(7), 18 + 2);
        Check.due("lit by light 0", game.lightOf(0, 6), 18);
    }

    private static void corners() {
        // The first and the last cell of the chart count, too.
        int[] corner = {0, 9, 90, 99};
        int[] wind = {5, 7, 3, 1};
        for (int i = 0; i < 4; i++) {
            BeamKeepers game = new BeamKeepers();
            for (int other = 0; other < 4; other++) {
                if (other != i) {
                    game.light(other, 3, 255);
                }
            }
            game.light(i, 0, wind[i]);
            game.rock(corner[i]);
            Check.due("lit corner", game.cellOf(corner[i], 2), 1 << i);
            Check.due("own cell and two", game.lightOf(i, 6), 3);
            Check.due("with the other lights", game.count(7), 6);
            Check.due("a lit rock", game.count(6), 1);
            Check.due("seen by walking", game.isLit(i, corner[i], 0, 1), 1);
        }
    }

    private static void eightShips() {
        BeamKeepers game = alone();
        game.light(0, 3, 255);
        for (int i = 0; i < 8; i++) {
            game.ship(10 + i, 90 + i, i);
        }
        for (int i = 0; i < 8; i++) {
            game.rock(80 + i);
        }
        Check.due("at sea", game.count(3), 8);
        Check.due("foreseen", game.ifPassed(1), 255);
        Check.due("best card", game.bestCard(0), BeamKeepers.NONE);
        Check.due("last place", game.shipOf(0, 6), 7);
        Check.due("first place", game.shipOf(7, 6), 0);
        Check.due("all wrecked", game.pass(1), 8);
        Check.due("wrecks", game.count(5), 8);
        Check.due("no ship in 0", game.cellOf(0, 1), BeamKeepers.NONE);
        game.undo();
        Check.due("at sea again", game.count(3), 8);
        Check.due("last place again", game.shipOf(0, 6), 7);
    }

    private static void shares() {
        BeamKeepers game = new BeamKeepers();
        for (int cell : new int[] {-1, 100, Integer.MIN_VALUE, Integer.MAX_VALUE}) {
            Check.due("share " + cell, game.share(cell), -1.0);
        }
        Check.due("own cell", game.share(22), 1.0);
        Check.due("four lights", game.share(24), 0.5);
        Check.due("two lights in one hour", game.share(20), 0.125);
        BeamKeepers one = alone();
        Check.due("one light", one.share(20), 0.125);
        Check.due("beyond its range", one.share(28), 0.0);
        Check.due("another one's cell", one.share(77), 1.0);
        one.light(0, 1, 2);
        Check.due("pace 2, its wind", one.share(20), 0.25);
        Check.due("pace 2, not its wind", one.share(11), 0.0);
        one.light(0, 1, 3);
        Check.due("pace 3", one.share(11), 0.125);
        one.light(0, 3, 16);
        Check.due("dark", one.share(20), 0.0);
        // By the fog of now, though it will be thinner by then.
        BeamKeepers fog = alone();
        fog.card(1, 0);
        Check.due("fog of now", fog.share(52), 0.0);
        Check.due("lit in time", fog.litIn(52), 2);
        // The eight hours are those from now on.
        BeamKeepers both = new BeamKeepers();
        both.light(1, 0, 4);
        both.light(2, 3, 255);
        both.light(3, 3, 255);
        Check.due("two lights, one hour", both.share(24), 0.125);
        both.pass(3);
        Check.due("from any hour on", both.share(24), 0.125);
    }

    private static BeamKeepers alone() {
        BeamKeepers game = new BeamKeepers();
        for (int i = 1; i < 4; i++) {
            game.light(i, 3, 255);
        }
        return game;
    }
}
