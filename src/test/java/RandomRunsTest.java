import java.util.Random;

/** All promises: runs of calls by fixed seeds, each answer held against the model's. */
public final class RandomRunsTest {
    private static final int RUNS = 5000;
    private static final int CALLS = 512;
    // The most calls of the object that one step takes: typing a text, and its fault after each character.
    private static final int CALLS_OF_A_STEP = 85;
    private static int bestCards = 0;

    private final Random random;
    private final BeamKeepers game = new BeamKeepers();
    private final Model model = new Model();
    private final int style;
    private int calls = 0;

    private RandomRunsTest(int seed) {
        random = new Random(seed);
        style = seed % 4;
    }

    public static void main(String[] args) {
        for (int seed = 0; seed < RUNS; seed++) {
            RandomRunsTest run = new RandomRunsTest(seed);
            if (seed % 2 == 0) {
                run.shipsHeld("seed " + seed + ", held: ");
            }
            if (seed % 5 == 1) {
                run.late("seed " + seed + ", late: ");
            }
            while (run.calls + CALLS_OF_A_STEP <= CALLS) {
                run.step("seed " + seed + ", call " + run.calls + ": ");
            }
        }
        Check.due("some best cards are found", bestCards > 100 ? 1 : 0, 1);
        Check.end();
    }

    /**
     * Lights of pace 2 that take turns on the rocks between them, so that ships are held for long
     * and a card decides. It takes 100 calls at most.
     */
    private void shipsHeld(String at) {
        int[] start = {1, 1, 3, 7};
        for (int i = 0; i < 4; i++) {
            set(at, i, 0, upTo(7) == 0 ? upTo(7) : start[i]);
            set(at, i, 1, upTo(7) == 0 ? 1 + upTo(2) : 2);
            set(at, i, 2, 2 + upTo(4));
        }
        int[][] courses = {{35, 53}, {53, 35}, {33, 55}, {46, 64}, {64, 46}, {66, 44}, {43, 45}, {56, 53}, {26, 62}};
        for (int[] course : courses) {
            if (upTo(2) > 0) {
                int worth = 1 + upTo(20);
                Check.due(at + "ship", game.ship(worth, course[0], course[1]), model.ship(worth, course[0], course[1]));
            }
        }
        for (int cell : new int[] {44, 55, 45, 54}) {
            if (upTo(2) > 0) {
                Check.due(at + "rock", game.rock(cell), model.rock(cell));
            }
        }
        for (int round = 0; round < 6; round++) {
            for (int keeper = 0; keeper < 4; keeper++) {
                int best = model.bestCard(keeper);
                bestCards += best >= 0 ? 1 : 0;
                Check.due(at + "bestCard " + keeper, game.bestCard(keeper), best);
                Check.due(at + "ifPassed", game.ifPassed(1 + 3 * round + keeper), model.ifPassed(1 + 3 * round + keeper));
            }
            int keeper = upTo(3);
            int light = upTo(3);
            Check.due(at + "card", game.card(keeper, light), model.card(keeper, light));
            if (round % 2 == 1) {
                Check.due(at + "pass", game.pass(1), model.pass(1));
            }
        }
        calls += 100;
    }

    /** Hours up to the last one that pass() takes, or just ahead of it. It takes 104 calls at most. */
    private void late(String at) {
        for (char sign : "h20;h20;h20;h20;h20;h20;h20;h20;h20;h20;h20;h20;h20;h20;h20".toCharArray()) {
            Check.due(at + "type", game.type(sign), model.type(sign));
        }
        for (int i = 0; i < 33; i++) {
            Check.due(at + "doAll", game.doAll(), model.doAll());
        }
        Check.due(at + "clearText", game.clearText(), model.clearText());
        for (int hours : new int[] {20, 20, 20, 20, 1 + upTo(18)}) {
            Check.due(at + "pass", game.pass(hours), model.pass(hours));
        }
        calls += 104;
    }

    private void set(String at, int light, int what, int value) {
        Check.due(at + "light " + light + " " + what + " " + value,
            game.light(light, what, value), model.light(light, what, value));
    }

    private int upTo(int most) {
        return random.nextInt(most + 1);
    }

    /** A number of a range, at times just outside of it or far away. */
    private int about(int least, int most) {
        int chance = upTo(59);
        if (chance == 0) {
            return least - 1;
        }
        if (chance == 1) {
            return most + 1;
        }
        return chance == 2 ? random.nextInt() : least + upTo(most - least);
    }

    private void step(String at) {
        int chance = upTo(99);
        if (chance < 40) {
            act(at);
            calls++;
        } else if (chance < 55) {
            text(at);
        } else if (chance < 62) {
            history(at);
            calls++;
        } else if (chance < 85) {
            tell(at);
            calls += 7;
        } else {
            foresee(at);
            calls += 4;
        }
    }

    private void act(String at) {
        int a = upTo(9);
        if (a < 2) {
            int cell = about(0, 99);
            Check.due(at + "rock " + cell, game.rock(cell), model.rock(cell));
        } else if (a < 5) {
            lightOrShip(at, a == 4);
        } else if (a < 7) {
            int keeper = about(0, 3);
            int light = about(0, 3);
            Check.due(at + "card " + keeper + " " + light, game.card(keeper, light), model.card(keeper, light));
        } else if (a < 9) {
            int hours = style == 0 ? about(1, 20) : about(1, 3);
            Check.due(at + "pass " + hours, game.pass(hours), model.pass(hours));
        } else {
            int wage = about(0, 9);
            Check.due(at + "wage " + wage, game.wage(wage), model.wage(wage));
        }
    }

    private void lightOrShip(String at, boolean ship) {
        if (ship) {
            int worth = style == 1 ? about(1, 5) : about(1, 99);
            int cell = about(0, 99);
            int harbour = about(0, 99);
            Check.due(at + "ship " + worth + " " + cell + " " + harbour,
                game.ship(worth, cell, harbour), model.ship(worth, cell, harbour));
            return;
        }
        int[] least = {0, 1, 1, 0};
        int[] most = {7, 3, 9, 255};
        int light = about(0, 3);
        int what = about(0, 3);
        boolean known = what >= 0 && what <= 3;
        int value = known ? about(least[what], most[what]) : upTo(9);
        if (what == 3 && style != 2) {
            value = value & random.nextInt() & random.nextInt();
        }
        set(at, light, what, value);
    }

    private String number(int most) {
        return upTo(20) == 0 ? "0" + upTo(9) : upTo(20) == 0 ? "" + (most + 1) : "" + (1 + upTo(most - 1));
    }

    private String cell() {
        return "" + upTo(9) + (upTo(40) == 0 ? "" : upTo(9));
    }

    private String part() {
        switch (upTo(4)) {
            case 0: return "r" + cell();
            case 1: return "s" + number(99) + ":" + cell() + ">" + cell();
            case 2: return "d" + upTo(upTo(20) == 0 ? 4 : 3) + upTo(upTo(20) == 0 ? 8 : 7);
            case 3: return "h" + number(20);
            default: return style == 3 ? "h20;h20;h20;h20;h20;h20;h20;h20" : "r" + cell();
        }
    }

    private void text(String at) {
        if (upTo(3) == 0) {
            Check.due(at + "clearText", game.clearText(), model.clearText());
            calls++;
            return;
        }
        String typed = part();
        if (model.text.length() > 0 && upTo(15) != 0) {
            typed = ";" + typed;
        }
        if (upTo(9) == 0) {
            typed = "" + "rsdh:>;0123456789 x\u0100\uffff".charAt(upTo(20));
        }
        for (int i = 0; i < typed.length(); i++) {
            Check.due(at + "type", game.type(typed.charAt(i)), model.type(typed.charAt(i)));
            Check.due(at + "fault of " + model.text, game.fault(), model.fault());
        }
        calls += 2 * typed.length() + 1;
        if (upTo(2) > 0) {
            Check.due(at + "doAll " + model.text, game.doAll(), model.doAll());
        }
    }

    private void history(String at) {
        int a = upTo(4);
        if (a < 2) {
            Check.due(at + "undo", game.undo(), model.undo());
        } else if (a < 3) {
            Check.due(at + "keep", game.keep(), model.keep());
        } else {
            Check.due(at + "restore", game.restore(), model.restore());
        }
    }

    private void tell(String at) {
        int what = about(0, 6);
        int light = about(0, 3);
        int cell = about(0, 99);
        int ship = about(0, 7);
        int count = about(0, 13);
        int hour = about(0, 20000);
        int way = about(0, 1);
        Check.due(at + "cellOf " + cell + " " + what, game.cellOf(cell, what), model.cellOf(cell, what));
        Check.due(at + "lightOf " + light + " " + what, game.lightOf(light, what), model.lightOf(light, what));
        Check.due(at + "keeperOf " + light + " " + what, game.keeperOf(light, what), model.keeperOf(light, what));
        Check.due(at + "shipOf " + ship + " " + what, game.shipOf(ship, what), model.shipOf(ship, what));
        Check.due(at + "why " + light + " " + cell, game.why(light, cell), model.why(light, cell));
        Check.due(at + "count " + count, game.count(count), model.count(count));
        Check.due(at + "isLit " + light + " " + cell + " " + hour + " " + way,
            game.isLit(light, cell, hour, way), model.isLit(light, cell, hour, way));
    }

    private void foresee(String at) {
        int cell = about(0, 99);
        int hours = about(1, 40);
        int keeper = about(0, 3);
        Check.due(at + "share " + cell, game.share(cell), model.share(cell));
        Check.due(at + "litIn " + cell, game.litIn(cell), model.litIn(cell));
        Check.due(at + "ifPassed " + hours, game.ifPassed(hours), model.ifPassed(hours));
        int best = model.bestCard(keeper);
        bestCards += best >= 0 ? 1 : 0;
        Check.due(at + "bestCard " + keeper, game.bestCard(keeper), best);
    }
}
