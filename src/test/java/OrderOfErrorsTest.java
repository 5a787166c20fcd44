/** "Where several errors can apply, the order of the @return line is the order of the checks." */
public final class OrderOfErrorsTest {
    private static final int UNKNOWN = BeamKeepers.UNKNOWN;
    private static final int BAD_VALUE = BeamKeepers.BAD_VALUE;
    private static final int FULL = BeamKeepers.FULL;
    private static final int NOT_POSSIBLE = BeamKeepers.NOT_POSSIBLE;
    private static final int[] CELLS_OUT = {-1, 100};
    private static final int[] LIGHTS_OUT = {-1, 4};

    public static void main(String[] args) {
        light();
        shipUnknownAheadOfBadValue();
        shipUnknownAheadOfNotPossible();
        shipUnknownAheadOfFull();
        shipBadValueAheadOfNotPossible();
        shipBadValueAheadOfFull();
        shipNotPossibleAheadOfFull();
        shipAllAtOnce();
        card();
        pass();
        tellings();
        isLit();
        textIsFull();
        Check.end();
    }

    // "UNKNOWN; BAD_VALUE (what or value); NONE if it is so already."
    private static void light() {
        for (int out : LIGHTS_OUT) {
            Look.refused("light and what", Look::busy, game -> game.light(out, 4, 0), UNKNOWN);
            Look.refused("light and what", Look::busy, game -> game.light(out, -1, 0), UNKNOWN);
            Look.refused("light and value", Look::busy, game -> game.light(out, 0, 8), UNKNOWN);
            Look.refused("light and value", Look::busy, game -> game.light(out, 1, 0), UNKNOWN);
            Look.refused("light and value", Look::busy, game -> game.light(out, 2, 10), UNKNOWN);
            Look.refused("light and value", Look::busy, game -> game.light(out, 3, 256), UNKNOWN);
            Look.refused("light, what and value", Look::busy, game -> game.light(out, 9, 999), UNKNOWN);
        }
        Look.refused("what and value", Look::busy, game -> game.light(0, 4, 999), BAD_VALUE);
        Look.refused("what and value", Look::busy, game -> game.light(0, -1, -1), BAD_VALUE);
    }

    /** Ships 0 to 6 (or 7) at sea in the cells 10, 20, ..., a rock in 5. */
    private static void fleet(BeamKeepers game, int ships) {
        game.rock(5);
        for (int i = 1; i <= ships; i++) {
            game.ship(i, 10 * i, 99);
        }
        game.keep();
        Look.write(game, "h1");
    }

    private static void seven(BeamKeepers game) {
        fleet(game, 7);
    }

    private static void eight(BeamKeepers game) {
        fleet(game, 8);
    }

    private static void ship(String name, Look.Script script, int worth, int cell, int harbour, int due) {
        Look.refused(name, script, game -> game.ship(worth, cell, harbour), due);
    }

    // "UNKNOWN (cell or harbour); BAD_VALUE; NOT_POSSIBLE if both are the same, a rock is in one of
    // them, or a ship at sea is in the cell; FULL if there are 8."
    private static void shipUnknownAheadOfBadValue() {
        for (int out : CELLS_OUT) {
            for (int worth : new int[] {0, 100, -1}) {
                ship("cell and worth", OrderOfErrorsTest::seven, worth, out, 1, UNKNOWN);
                ship("harbour and worth", OrderOfErrorsTest::seven, worth, 1, out, UNKNOWN);
                ship("cell, harbour and worth", OrderOfErrorsTest::seven, worth, out, out, UNKNOWN);
            }
        }
    }

    private static void shipUnknownAheadOfNotPossible() {
        for (int out : CELLS_OUT) {
            ship("both the same", OrderOfErrorsTest::seven, 1, out, out, UNKNOWN);
            ship("to a rock", OrderOfErrorsTest::seven, 1, out, 5, UNKNOWN);
            ship("from a rock", OrderOfErrorsTest::seven, 1, 5, out, UNKNOWN);
            ship("from a ship's cell", OrderOfErrorsTest::seven, 1, 20, out, UNKNOWN);
        }
    }

    private static void shipUnknownAheadOfFull() {
        for (int out : CELLS_OUT) {
            ship("from nowhere", OrderOfErrorsTest::eight, 1, out, 1, UNKNOWN);
            ship("to nowhere", OrderOfErrorsTest::eight, 1, 1, out, UNKNOWN);
        }
    }

    private static void shipBadValueAheadOfNotPossible() {
        for (int worth : new int[] {0, 100}) {
            ship("both the same", OrderOfErrorsTest::seven, worth, 1, 1, BAD_VALUE);
            ship("from a rock", OrderOfErrorsTest::seven, worth, 5, 1, BAD_VALUE);
            ship("to a rock", OrderOfErrorsTest::seven, worth, 1, 5, BAD_VALUE);
            ship("from a ship's cell", OrderOfErrorsTest::seven, worth, 20, 1, BAD_VALUE);
        }
    }

    private static void shipBadValueAheadOfFull() {
        ship("worth 0", OrderOfErrorsTest::eight, 0, 1, 2, BAD_VALUE);
        ship("worth 100", OrderOfErrorsTest::eight, 100, 1, 2, BAD_VALUE);
    }

    private static void shipNotPossibleAheadOfFull() {
        ship("full alone", OrderOfErrorsTest::eight, 1, 1, 2, FULL);
        ship("both the same", OrderOfErrorsTest::eight, 1, 1, 1, NOT_POSSIBLE);
        ship("from a rock", OrderOfErrorsTest::eight, 1, 5, 1, NOT_POSSIBLE);
        ship("to a rock", OrderOfErrorsTest::eight, 1, 1, 5, NOT_POSSIBLE);
        ship("from a ship's cell", OrderOfErrorsTest::eight, 1, 20, 1, NOT_POSSIBLE);
    }

    private static void shipAllAtOnce() {
        ship("all four", OrderOfErrorsTest::eight, 0, 100, 100, UNKNOWN);
        ship("the last three", OrderOfErrorsTest::eight, 0, 5, 5, BAD_VALUE);
        ship("the last two", OrderOfErrorsTest::eight, 99, 5, 5, NOT_POSSIBLE);
    }

    // "UNKNOWN; NOT_POSSIBLE if it is the keeper's own light, it has no card, or the light's fog is 9."
    private static void card() {
        Look.Script poor = game -> {
            Look.fogged(game, 1, 9);
            game.keep();
        };
        for (int out : LIGHTS_OUT) {
            Look.refused("both the same", poor, game -> game.card(out, out), UNKNOWN);
            Look.refused("without a card", poor, game -> game.card(2, out), UNKNOWN);
            Look.refused("on a fog of 9", poor, game -> game.card(out, 1), UNKNOWN);
        }
        Look.refused("without a card, on a fog of 9", poor, game -> game.card(2, 1), NOT_POSSIBLE);
        Look.refused("its own light, without a card", poor, game -> game.card(2, 2), NOT_POSSIBLE);
        Look.refused("its own light, of fog 9", poor, game -> game.card(1, 1), NOT_POSSIBLE);
    }

    // "BAD_VALUE; FULL if the hour would be more than 9999."
    private static void pass() {
        Look.Script last = game -> Look.toHour(game, 9999);
        for (int hours : new int[] {0, -1, 21, Integer.MIN_VALUE, Integer.MAX_VALUE}) {
            Look.refused("pass " + hours + " in the last hour", last, game -> game.pass(hours), BAD_VALUE);
        }
        Look.refused("pass 1 in the last hour", last, game -> game.pass(1), FULL);
        Look.Script before = game -> Look.toHour(game, 9990);
        Look.refused("pass 21 before it", before, game -> game.pass(21), BAD_VALUE);
        Look.refused("pass 10 before it", before, game -> game.pass(10), FULL);
    }

    // "The number; UNKNOWN; BAD_VALUE."
    private static void tellings() {
        for (int what : new int[] {-1, 99, Integer.MIN_VALUE, Integer.MAX_VALUE}) {
            for (int out : CELLS_OUT) {
                Look.refused("cellOf", Look::busy, game -> game.cellOf(out, what), UNKNOWN);
            }
            for (int out : LIGHTS_OUT) {
                Look.refused("lightOf", Look::busy, game -> game.lightOf(out, what), UNKNOWN);
                Look.refused("keeperOf", Look::busy, game -> game.keeperOf(out, what), UNKNOWN);
            }
            for (int out : new int[] {-1, 5, 8}) {
                Look.refused("shipOf", Look::busy, game -> game.shipOf(out, what), UNKNOWN);
            }
            Look.refused("shipOf, not at sea", Look::busy, game -> game.shipOf(0, what), BAD_VALUE);
            Look.refused("cellOf, without a ship", Look::busy, game -> game.cellOf(0, what), BAD_VALUE);
        }
    }

    // "UNKNOWN; BAD_VALUE (hour or way)."
    private static void isLit() {
        for (int hour : new int[] {-1, 0, 20001}) {
            for (int way : new int[] {-1, 1, 2}) {
                for (int out : LIGHTS_OUT) {
                    Look.refused("light", Look::busy, game -> game.isLit(out, 22, hour, way), UNKNOWN);
                    Look.refused("light and cell", Look::busy, game -> game.isLit(out, 100, hour, way), UNKNOWN);
                }
                for (int out : CELLS_OUT) {
                    Look.refused("cell", Look::busy, game -> game.isLit(0, out, hour, way), UNKNOWN);
                }
                if (hour != 0 || way != 1) {
                    Look.refused("hour and way", Look::busy, game -> game.isLit(0, 22, hour, way), BAD_VALUE);
                }
            }
        }
    }

    // A text that is full and has a fault: doAll() tells the fault, type() that it is full.
    private static void textIsFull() {
        Look.Script full = game -> {
            Look.busy(game);
            game.clearText();
            Look.write(game, "r22;r22;r22;r22;r22;r22;r22;r22;r22;r22;r22;r22;r22;r22;r22;");
        };
        Look.refused("doAll", full, game -> game.doAll(), -160);
        Look.refused("type", full, game -> game.type('r'), FULL);
        Check.due("fault", Look.made(full).fault(), 60);
    }
}
