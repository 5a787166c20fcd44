/** The edges that "KEEPERS" and promises 6, 7, 8 and 17 name. */
public final class KeeperEdgesTest {
    private static final int[] OUT = {-1, 4, Integer.MIN_VALUE, Integer.MAX_VALUE};
    private static final int[] FAR = {Integer.MIN_VALUE, Integer.MAX_VALUE};
    private static final int UNKNOWN = BeamKeepers.UNKNOWN;
    private static final int BAD_VALUE = BeamKeepers.BAD_VALUE;
    private static final int FULL = BeamKeepers.FULL;
    private static final int NOT_POSSIBLE = BeamKeepers.NOT_POSSIBLE;
    private static final int NONE = BeamKeepers.NONE;

    public static void main(String[] args) {
        atFirst();
        noSuchKeeper();
        notItsOwnLight();
        threeCards();
        threeMoreButNineAtMost();
        fogOfNine();
        fogThinsToNone();
        leastAndMostHours();
        theLastHour();
        wrecksInTheHours();
        leastAndMostWage();
        wageOfEachHour();
        noDebtNoPayment();
        asFarAsTheCoinsGo();
        shipsBeforeWages();
        shipsBeforeFog();
        shipsBeforeTheHour();
        eachPaysItsOwn();
        noSuchWhatOfAKeeper();
        noSuchCount();
        Check.end();
    }

    // "A debt, coins, and fog cards (3 at first)"; "the setting 0: 0 to 9; 2".
    private static void atFirst() {
        BeamKeepers game = new BeamKeepers();
        int[] due = {0, 0, 3, 0, 0};
        for (int keeper = 0; keeper < 4; keeper++) {
            for (int what = 0; what < 5; what++) {
                Check.due("keeper " + keeper + " " + what, game.keeperOf(keeper, what), due[what]);
            }
        }
        Check.due("wage", game.count(13), 2);
    }

    private static void noSuchKeeper() {
        for (int out : OUT) {
            for (int known = 0; known < 4; known++) {
                int other = known;
                Look.refused("card of " + out, Look::busy, game -> game.card(out, other), UNKNOWN);
                Look.refused("card on " + out, Look::busy, game -> game.card(other, out), UNKNOWN);
            }
            Look.refused("card of " + out + " on it", Look::busy, game -> game.card(out, out), UNKNOWN);
            for (int what = 0; what < 5; what++) {
                int asked = what;
                Look.refused("keeperOf " + out, Look::busy, game -> game.keeperOf(out, asked), UNKNOWN);
            }
        }
        Look.act("the first and the last", Look::busy, game -> game.card(0, 3), 3);
        Look.act("the last and the first", Look::busy, game -> game.card(3, 0), 6);
        Check.due("the last one's cards", Look.made(Look::busy).keeperOf(3, 2), 2);
    }

    // "A card can be laid on a light by the keeper of another one."
    private static void notItsOwnLight() {
        for (int i = 0; i < 4; i++) {
            for (int j = 0; j < 4; j++) {
                int keeper = i;
                int light = j;
                if (i == j) {
                    Look.refused("on its own", game -> game.pass(1), game -> game.card(keeper, light), NOT_POSSIBLE);
                } else {
                    Look.act("on another one", game -> game.pass(1), game -> game.card(keeper, light), 3);
                    BeamKeepers game = new BeamKeepers();
                    game.card(i, j);
                    for (int k = 0; k < 4; k++) {
                        Check.due("cards of " + k, game.keeperOf(k, 2), k == i ? 2 : 3);
                        Check.due("fog of " + k, game.lightOf(k, 4), k == j ? 3 : 0);
                    }
                }
            }
        }
    }

    // "Fog cards (3 at first)": the third one can be laid, a fourth one not.
    private static void threeCards() {
        Look.Script two = game -> {
            game.card(0, 1);
            game.card(0, 2);
        };
        Look.Script three = game -> {
            two.play(game);
            game.card(0, 3);
        };
        Look.act("the third", two, game -> game.card(0, 3), 3);
        for (int i = 1; i < 4; i++) {
            int light = i;
            Look.refused("the fourth", three, game -> game.card(0, light), NOT_POSSIBLE);
        }
        BeamKeepers game = Look.made(three);
        Check.due("no card left", game.keeperOf(0, 2), 0);
        Check.due("fog of light 1", game.lightOf(1, 4), 3);
        game.pass(20);
        Check.due("none comes by the hours", game.card(0, 1), NOT_POSSIBLE);
        game.undo();
        game.undo();
        Check.due("the third is back", game.keeperOf(0, 2), 1);
        Check.due("and can be laid", game.card(0, 3), 3);
    }

    // "Its fog is 3 more, but 9 at most."
    private static void threeMoreButNineAtMost() {
        int[] due = {3, 4, 5, 6, 7, 8, 9, 9, 9};
        for (int i = 0; i < 9; i++) {
            int fog = i;
            Look.Script script = game -> Look.fogged(game, 2, fog);
            Check.due("fog", Look.made(script).lightOf(2, 4), fog);
            Look.act("a card on a fog of " + fog, script, game -> game.card(0, 2), due[i]);
            BeamKeepers game = Look.made(script);
            game.card(0, 2);
            Check.due("its fog then", game.lightOf(2, 4), due[i]);
            Check.due("a card less", game.keeperOf(0, 2), 2);
        }
    }

    // "NOT_POSSIBLE if the light's fog is 9."
    private static void fogOfNine() {
        Look.Script nine = game -> Look.fogged(game, 2, 9);
        Check.due("fog", Look.made(nine).lightOf(2, 4), 9);
        Look.refused("one with three cards", nine, game -> game.card(0, 2), NOT_POSSIBLE);
        Look.refused("one without cards", nine, game -> game.card(3, 2), NOT_POSSIBLE);
        Look.refused("its own keeper", nine, game -> game.card(2, 2), NOT_POSSIBLE);
        Look.act("another light", nine, game -> game.card(0, 1), 3);
        BeamKeepers game = Look.made(nine);
        game.pass(1);
        Check.due("an hour later", game.card(0, 2), 9);
    }

    // "Each fog above 0 is 1 less."
    private static void fogThinsToNone() {
        BeamKeepers game = new BeamKeepers();
        game.card(0, 1);
        game.card(0, 1);
        game.card(0, 1);
        game.card(1, 2);
        for (int hour = 0; hour <= 11; hour++) {
            int[] due = {0, Math.max(0, 9 - hour), Math.max(0, 3 - hour), 0};
            for (int i = 0; i < 4; i++) {
                Check.due("fog of " + i + " in hour " + hour, game.lightOf(i, 4), due[i]);
            }
            game.pass(1);
        }
        BeamKeepers twenty = new BeamKeepers();
        twenty.card(0, 1);
        twenty.pass(20);
        Check.due("none after twenty hours", twenty.lightOf(1, 4), 0);
        Check.due("a card then", twenty.card(0, 1), 3);
    }

    // "hours: 1 to 20."
    private static void leastAndMostHours() {
        for (int out : new int[] {0, -1, 21, FAR[0], FAR[1]}) {
            Look.refused("pass " + out, Look::busy, game -> game.pass(out), BAD_VALUE);
        }
        Look.act("pass 1", Look::busy, game -> game.pass(1), 1);
        Look.act("pass 20", Look::busy, game -> game.pass(20), 1);
        BeamKeepers game = new BeamKeepers();
        game.pass(1);
        Check.due("one hour", game.count(0), 1);
        game.pass(20);
        Check.due("twenty more", game.count(0), 21);
        Check.due("twenty-one wages", game.keeperOf(3, 0), 42);
    }

    // "FULL if the hour would be more than 9999."
    private static void theLastHour() {
        Look.Script script = game -> Look.toHour(game, 9979);
        Look.act("twenty to 9999", script, game -> game.pass(20), 0);
        Look.Script next = game -> Look.toHour(game, 9980);
        Look.refused("twenty to 10000", next, game -> game.pass(20), FULL);
        Look.act("nineteen to 9999", next, game -> game.pass(19), 0);
        Look.Script last = game -> Look.toHour(game, 9999);
        Look.refused("one to 10000", last, game -> game.pass(1), FULL);
        Look.refused("twenty from 9999", last, game -> game.pass(20), FULL);
        Look.refused("one to 10000 by a text", game -> {
            Look.toHour(game, 9998);
            Look.write(game, "r11;h1;h1");
        }, game -> game.doAll(), FULL);
        Look.act("one to 9999 by a text", game -> {
            Look.toHour(game, 9998);
            Look.write(game, "r11;h1;r12");
        }, game -> game.doAll(), 3);
        BeamKeepers game = Look.made(last);
        Check.due("the last hour", game.count(0), 9999);
        Check.due("its coins", game.keeperOf(0, 0), 2 * 9999);
        Check.due("other acts are possible", game.rock(5), 1);
        Check.due("keep", game.keep(), 9999);
        Check.due("restore", game.restore(), 9999);
        // What would be is told for the hours behind it, too.
        Look.dark(game);
        game.rock(5);
        game.rock(2);
        game.ship(9, 0, 4);
        Check.due("foreseen", game.ifPassed(1), 0);
        Check.due("foreseen behind the last hour", game.ifPassed(40), 1);
        game.light(0, 3, 0);
        Check.due("lit behind the last hour", game.litIn(20), 5);
        Check.due("a share behind the last hour", game.share(20), 0.125);
    }

    // "Returns how many ships are wrecked in them": in all of the hours, and no others.
    private static void wrecksInTheHours() {
        BeamKeepers game = new BeamKeepers();
        Look.dark(game);
        for (int i = 0; i < 8; i++) {
            game.ship(5, 10 * i, 10 * i + 9);
        }
        for (int i = 0; i < 8; i++) {
            game.rock(10 * i + (i < 2 ? 1 : i == 2 || i == 7 ? 4 : i < 6 ? 3 : 8));
        }
        Check.due("hour 1", game.pass(1), 2);
        Check.due("hour 2", game.pass(1), 0);
        Check.due("hours 3 to 7", game.pass(5), 5);
        Check.due("hour 8", game.pass(1), 1);
        Check.due("no more", game.pass(20), 0);
        game.undo();
        game.undo();
        game.undo();
        Check.due("hours 3 to 22", game.pass(20), 6);
        Check.due("all eight", game.count(5), 8);
    }

    // "wage: 0 to 9"; "NONE if it is so already."
    private static void leastAndMostWage() {
        for (int out : new int[] {-1, 10, FAR[0], FAR[1]}) {
            Look.refused("wage " + out, Look::busy, game -> game.wage(out), BAD_VALUE);
        }
        Look.act("wage 0", Look::busy, game -> game.wage(0), 2);
        Look.act("wage 9", Look::busy, game -> game.wage(9), 2);
        Look.refused("wage as it is", Look::busy, game -> game.wage(2), NONE);
        Look.refused("wage as at first", game -> { }, game -> game.wage(2), NONE);
        Look.refused("wage 0 again", game -> game.wage(0), game -> game.wage(0), NONE);
        Look.refused("wage 9 again", game -> game.wage(9), game -> game.wage(9), NONE);
        Look.refused("wage -1 from 0", game -> game.wage(0), game -> game.wage(-1), BAD_VALUE);
        Look.refused("wage 10 from 9", game -> game.wage(9), game -> game.wage(10), BAD_VALUE);
        Look.act("from 9 to 0", game -> game.wage(9), game -> game.wage(0), 9);
    }

    private static void wageOfEachHour() {
        for (int wage = 0; wage <= 9; wage++) {
            BeamKeepers game = new BeamKeepers();
            game.wage(wage);
            game.pass(1);
            Check.due("one hour's wage", game.keeperOf(0, 0), wage);
            game.pass(20);
            for (int i = 0; i < 4; i++) {
                Check.due("wages of 21 hours", game.keeperOf(i, 0), 21 * wage);
            }
        }
    }

    private static void noDebtNoPayment() {
        BeamKeepers game = new BeamKeepers();
        game.pass(20);
        for (int i = 0; i < 4; i++) {
            Check.due("coins", game.keeperOf(i, 0), 40);
            Check.due("debt", game.keeperOf(i, 1), 0);
            Check.due("paid", game.keeperOf(i, 4), 0);
        }
        Check.due("all debts", game.count(8), 0);
        Check.due("all paid", game.count(9), 0);
    }

    /** A wreck of the worth wanted, by light 0, in the first hour after some hours of saving. */
    private static BeamKeepers wrecked(int worth, int hours, int wage) {
        BeamKeepers game = new BeamKeepers();
        Look.dark(game);
        game.wage(wage);
        if (hours > 0) {
            game.pass(hours);
        }
        game.ship(worth, 0, 2);
        game.rock(1);
        Check.due("wreck", game.pass(1), 1);
        return game;
    }

    private static void purse(String name, BeamKeepers game, int coins, int debt, int paid) {
        Check.due(name + ": coins", game.keeperOf(0, 0), coins);
        Check.due(name + ": debt", game.keeperOf(0, 1), debt);
        Check.due(name + ": paid", game.keeperOf(0, 4), paid);
        Check.due(name + ": wrecks", game.keeperOf(0, 3), 1);
        Check.due(name + ": all debts", game.count(8), debt);
        Check.due(name + ": all paid", game.count(9), paid);
    }

    // "A keeper with a debt pays it, as far as the coins go."
    private static void asFarAsTheCoinsGo() {
        purse("one coin short", wrecked(11, 4, 2), 0, 1, 10);
        purse("just enough", wrecked(10, 4, 2), 0, 0, 10);
        purse("one coin left", wrecked(9, 4, 2), 1, 0, 9);
        purse("without coins", wrecked(9, 5, 0), 0, 9, 0);
        purse("the least worth", wrecked(1, 1, 1), 1, 0, 1);
        purse("the greatest worth", wrecked(99, 1, 9), 0, 81, 18);
        BeamKeepers later = wrecked(20, 0, 9);
        purse("first payment", later, 0, 11, 9);
        later.pass(1);
        purse("second payment", later, 0, 2, 18);
        later.pass(1);
        purse("last payment", later, 7, 0, 20);
        later.pass(1);
        purse("nothing more to pay", later, 16, 0, 20);
    }

    // "First the ships go; then each keeper gets the wage": the wage of the hour pays for its wreck.
    private static void shipsBeforeWages() {
        purse("the same hour", wrecked(2, 0, 2), 0, 0, 2);
        purse("the same hour, not all", wrecked(3, 0, 2), 0, 1, 2);
    }

    // "First the ships go; ... then each fog above 0 is 1 less."
    private static void shipsBeforeFog() {
        for (int fog = 0; fog <= 2; fog++) {
            // The rock is at the range of light 0, whose beam is on it in this hour.
            BeamKeepers game = new BeamKeepers();
            Look.alone(game);
            Look.fogged(game, 0, fog);
            game.light(0, 0, (8 - game.count(0) % 8) % 8);
            game.rock(37);
            game.ship(9, 38, 30);
            Check.due("with fog " + fog, game.pass(1), fog == 0 ? 0 : 1);
            Check.due("fog after it", game.lightOf(0, 4), Math.max(0, fog - 1));
        }
    }

    // "First the ships go; ... then the hour is 1 more."
    private static void shipsBeforeTheHour() {
        for (int start = 0; start < 8; start++) {
            BeamKeepers game = new BeamKeepers();
            Look.alone(game);
            game.light(0, 0, start);
            game.rock(37);
            game.ship(9, 38, 30);
            Check.due("beam " + start, game.pass(1), start == 0 ? 0 : 1);
            Check.due("hour", game.count(0), 1);
        }
    }

    private static void eachPaysItsOwn() {
        BeamKeepers game = new BeamKeepers();
        Look.dark(game);
        int[] rocks = {1, 8, 91, 98};
        for (int i = 0; i < 4; i++) {
            game.ship(10 + i, rocks[i] - 1, rocks[i] + 1);
            game.rock(rocks[i]);
        }
        Check.due("wrecks", game.pass(1), 4);
        for (int i = 0; i < 4; i++) {
            Check.due("debt of " + i, game.keeperOf(i, 1), 8 + i);
            Check.due("paid by " + i, game.keeperOf(i, 4), 2);
            Check.due("owed by " + i, game.keeperOf(i, 3), 1);
        }
        Check.due("all debts", game.count(8), 8 + 9 + 10 + 11);
        Check.due("all paid", game.count(9), 8);
        game.pass(5);
        Check.due("all debts", game.count(8), 1);
        Check.due("the last one's", game.keeperOf(3, 1), 1);
        Check.due("the first one's coins", game.keeperOf(0, 0), 2);
    }

    private static void noSuchWhatOfAKeeper() {
        for (int what : new int[] {-1, 5, FAR[0], FAR[1]}) {
            for (int i = 0; i < 4; i++) {
                int keeper = i;
                Look.refused("keeperOf what " + what, Look::busy, game -> game.keeperOf(keeper, what), BAD_VALUE);
            }
        }
        Look.onlyTells("keeperOf", Look::busy, game -> game.keeperOf(0, 0) + game.keeperOf(3, 4));
    }

    // "what: 0 for the hour, ... 13 for the wage."
    private static void noSuchCount() {
        for (int what : new int[] {-1, 14, FAR[0], FAR[1]}) {
            Look.refused("count " + what, Look::busy, game -> game.count(what), BAD_VALUE);
        }
        BeamKeepers game = Look.made(Look::busy);
        Check.due("the first", game.count(0), 2);
        Check.due("the last", game.count(13), 2);
        for (int what = 0; what <= 13; what++) {
            int asked = what;
            Look.onlyTells("count " + what, Look::busy, g -> g.count(asked));
        }
    }
}
