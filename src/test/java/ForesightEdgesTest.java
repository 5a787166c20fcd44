/** The edges that promises 23, 24 and 25 name. */
public final class ForesightEdgesTest {
    private static final int[] FAR = {Integer.MIN_VALUE, Integer.MAX_VALUE};
    private static final int UNKNOWN = BeamKeepers.UNKNOWN;
    private static final int BAD_VALUE = BeamKeepers.BAD_VALUE;
    private static final int NONE = BeamKeepers.NONE;

    public static void main(String[] args) {
        litNow();
        litInEachHour();
        litAfterTheFogThinned();
        notWithinFortyHours();
        leastAndMostHours();
        fortyHours();
        shipsAsASet();
        wrecksThatWere();
        ifPassedIsAsPass();
        noSuchKeeper();
        noCard();
        noLightBringsMore();
        ofAnotherKeeper();
        onlyWhereItCanBeLaid();
        mostWorth();
        lowestOfSeveral();
        inTenHours();
        nothingIsLaid();
        Check.end();
    }

    // "Returns 0 if it is now."
    private static void litNow() {
        BeamKeepers game = new BeamKeepers();
        Look.alone(game);
        Check.due("lit now", game.litIn(27), 0);
        Check.due("its own cell", game.litIn(22), 0);
        Check.due("another light's own cell", game.litIn(99 - 22), 0);
        Check.due("one beyond the range", game.litIn(28), NONE);
        game.pass(1);
        Check.due("no more", game.litIn(26), 7);
        Look.onlyTells("litIn", Look::busy, g -> g.litIn(26) + g.litIn(99) + g.litIn(22));
    }

    private static void litInEachHour() {
        int[] near = {24, 44, 42, 40, 20, 0, 2, 4};
        for (int pace = 1; pace <= 3; pace++) {
            for (int start = 0; start < 8; start++) {
                BeamKeepers game = new BeamKeepers();
                Look.alone(game);
                game.light(0, 1, pace);
                game.light(0, 0, start);
                for (int wind = 0; wind < 8; wind++) {
                    int due = NONE;
                    for (int hours = 7; hours >= 0; hours--) {
                        due = (start + hours * pace) % 8 == wind ? hours : due;
                    }
                    Check.due("pace " + pace + " from " + start + " to " + wind, game.litIn(near[wind]), due);
                }
            }
        }
    }

    // "Fog becomes less by the hour": a cell at the range is lit when the fog is gone, not sooner.
    private static void litAfterTheFogThinned() {
        for (int fog = 0; fog <= 9; fog++) {
            for (int east = 0; east < 8; east++) {
                BeamKeepers game = new BeamKeepers();
                Look.alone(game);
                Look.fogged(game, 0, fog);
                game.light(0, 0, (16 - east - game.count(0) % 8) % 8);
                int due = east;
                while (due < fog) {
                    due += 8;
                }
                Check.due("fog " + fog + ", east in " + east, game.litIn(37), due);
                int nearer = east;
                while (fog - nearer > 4) {
                    nearer += 8;
                }
                Check.due("nearer: fog " + fog + ", east in " + east, game.litIn(23), nearer);
            }
        }
    }

    // "NONE if not within 40 hours": what is not lit in two turns without fog is never lit.
    private static void notWithinFortyHours() {
        Look.refused("beyond all ranges", Look::alone, game -> game.litIn(99), NONE);
        Look.refused("in dark winds", Look::dark, game -> game.litIn(24), NONE);
        Look.refused("not by its pace", game -> {
            Look.alone(game);
            game.light(0, 1, 2);
        }, game -> game.litIn(44), NONE);
    }

    // "hours: 1 to 40."
    private static void leastAndMostHours() {
        for (int hours : new int[] {0, -1, 41, FAR[0], FAR[1]}) {
            Look.refused("ifPassed " + hours, Look::busy, game -> game.ifPassed(hours), BAD_VALUE);
        }
        Look.refused("ifPassed 1", Look::busy, game -> game.ifPassed(1), 16);
        Look.refused("ifPassed 40", Look::busy, game -> game.ifPassed(40), 16);
        Look.refused("ifPassed 40 without ships", game -> { }, game -> game.ifPassed(40), 0);
    }

    /**
     * The rock in 44 is lit in seven hours of eight: the ships in line before it are wrecked one by
     * one, in the hours 8, 16, 24, 32 and 40 from the first one on.
     */
    private static void line(BeamKeepers game) {
        int[] start = {1, 1, 3, 2};
        for (int i = 0; i < 4; i++) {
            game.light(i, 0, start[i]);
            game.light(i, 1, i == 3 ? 1 : 2);
        }
        for (int i = 0; i < 5; i++) {
            game.ship(50 - i, 54 + 10 * i, 4);
        }
        game.rock(44);
        game.keep();
    }

    private static void fortyHours() {
        BeamKeepers game = Look.made(ForesightEdgesTest::line);
        for (int hours = 1; hours <= 40; hours++) {
            Check.due("in " + hours + " hours", game.ifPassed(hours), (1 << hours / 8) - 1);
        }
        Look.refused("39 hours", ForesightEdgesTest::line, g -> g.ifPassed(39), 15);
        Look.refused("40 hours", ForesightEdgesTest::line, g -> g.ifPassed(40), 31);
        Check.due("pass 7", game.pass(7), 0);
        Check.due("pass 1", game.pass(1), 1);
        Check.due("the others from then on", game.ifPassed(32), 30);
        Check.due("but for the last one", game.ifPassed(31), 14);
        Check.due("pass 20", game.pass(20), 2);
        Check.due("pass 11", game.pass(11), 1);
        Check.due("the last one", game.ifPassed(1), 16);
        Check.due("pass 1", game.pass(1), 1);
        Check.due("none is left", game.ifPassed(40), 0);
    }

    // "Returns the ships as a set": the bit 0 for the first one, the bit 7 for the eighth.
    private static void shipsAsASet() {
        for (int set = 0; set < 256; set += 5) {
            BeamKeepers game = new BeamKeepers();
            Look.dark(game);
            for (int i = 0; i < 8; i++) {
                game.ship(9, 90 + i, i);
            }
            for (int i = 0; i < 8; i++) {
                if ((set >> i & 1) == 1) {
                    game.rock(80 + i);
                }
            }
            Check.due("set", game.ifPassed(1), set);
            Check.due("as many", game.pass(1), Integer.bitCount(set));
        }
    }

    // What was wrecked is not wrecked again; what is home comes to no harm.
    private static void wrecksThatWere() {
        BeamKeepers game = new BeamKeepers();
        Look.dark(game);
        game.ship(9, 0, 9);
        game.ship(8, 10, 11);
        game.ship(7, 20, 29);
        game.rock(1);
        game.rock(25);
        Check.due("both", game.ifPassed(40), 5);
        game.pass(1);
        game.rock(11);
        Check.due("one is wrecked, one home", game.ifPassed(40), 4);
        game.pass(20);
        Check.due("none", game.ifPassed(40), 0);
    }

    // "If nothing else is done": as pass() does, for as many hours as that takes.
    private static void ifPassedIsAsPass() {
        for (int hours = 1; hours <= 20; hours++) {
            BeamKeepers game = Look.made(ForesightEdgesTest::line);
            game.card(0, 3);
            game.ship(9, 99, 0);
            game.rock(66);
            int set = game.ifPassed(hours);
            Check.due("wrecks in " + hours, game.pass(hours), Integer.bitCount(set));
            for (int i = 0; i < 6; i++) {
                Check.due("ship " + i + " in " + hours, game.shipOf(i, 3) == 2 ? 1 : 0, set >> i & 1);
            }
        }
    }

    private static void noSuchKeeper() {
        for (int out : new int[] {-1, 4, FAR[0], FAR[1]}) {
            Look.refused("bestCard " + out, ForesightEdgesTest::held, game -> game.bestCard(out), UNKNOWN);
        }
        Check.due("the first keeper", Look.made(ForesightEdgesTest::held).bestCard(0), 1);
        Check.due("the last keeper", Look.made(ForesightEdgesTest::held).bestCard(3), 0);
    }

    /**
     * With pace 2 the light i shines on the rocks in 44 and 55 in each hour h with h mod 4 = i, so
     * that the ships before them wait for ever. A card laid now is a fog of 3 in the hour of light
     * 0, 2 in that of light 1, 1 in that of light 2, none in that of light 3.
     */
    private static void lights(BeamKeepers game, int range0, int range1, int range2) {
        int[] start = {1, 1, 3, 7};
        int[] range = {range0, range1, range2, 3};
        for (int i = 0; i < 4; i++) {
            game.light(i, 0, start[i]);
            game.light(i, 1, 2);
            game.light(i, 2, range[i]);
        }
    }

    /** A card on the light 0 or 1 would wreck the ship, one on the light 2 as well. */
    private static void held(BeamKeepers game) {
        lights(game, 4, 4, 3);
        game.ship(60, 35, 53);
        game.rock(44);
    }

    private static void spend(BeamKeepers game, int keeper, int cards) {
        for (int i = 0; i < cards; i++) {
            game.card(keeper, keeper == 3 ? 2 : 3);
            game.pass(20);
        }
    }

    // "NONE if there is none, or the keeper has no card."
    private static void noCard() {
        for (int keeper = 0; keeper < 4; keeper++) {
            for (int cards = 0; cards <= 3; cards++) {
                int asked = keeper;
                int spent = cards;
                Look.Script script = game -> {
                    spend(game, asked, spent);
                    held(game);
                };
                Check.due("cards left", Look.made(script).keeperOf(keeper, 2), 3 - cards);
                int due = cards == 3 ? NONE : keeper == 0 ? 1 : 0;
                Look.refused("bestCard of " + keeper + " after " + cards, script, game -> game.bestCard(asked), due);
            }
        }
    }

    // "More than without it": NONE if no card brings more.
    private static void noLightBringsMore() {
        for (int i = 0; i < 4; i++) {
            int keeper = i;
            Look.refused("without ships", game -> { }, game -> game.bestCard(keeper), NONE);
            Look.refused("without rocks", game -> game.ship(9, 0, 9), game -> game.bestCard(keeper), NONE);
            Look.refused("lit in spite of a card", game -> {
                lights(game, 9, 9, 9);
                game.ship(60, 35, 53);
                game.rock(44);
            }, game -> game.bestCard(keeper), NONE);
            Look.refused("wrecked anyhow", game -> {
                Look.dark(game);
                game.ship(60, 35, 53);
                game.rock(44);
            }, game -> game.bestCard(keeper), NONE);
            Look.refused("a wreck that was", game -> {
                Look.dark(game);
                game.ship(60, 35, 53);
                game.rock(44);
                game.pass(1);
            }, game -> game.bestCard(keeper), NONE);
        }
    }

    // "The light of another keeper."
    private static void ofAnotherKeeper() {
        // Light 0 alone would do.
        Look.Script zero = game -> {
            lights(game, 4, 9, 9);
            game.ship(60, 35, 53);
            game.rock(44);
        };
        int[] due = {NONE, 0, 0, 0};
        // Light 2 alone would do, by its fog of 1 in its hour.
        Look.Script two = game -> {
            lights(game, 9, 9, 3);
            game.ship(60, 35, 53);
            game.rock(44);
        };
        int[] dueTwo = {2, 2, NONE, 2};
        for (int i = 0; i < 4; i++) {
            int keeper = i;
            Look.refused("light 0 alone, keeper " + i, zero, game -> game.bestCard(keeper), due[i]);
            Look.refused("light 2 alone, keeper " + i, two, game -> game.bestCard(keeper), dueTwo[i]);
        }
    }

    // A light whose fog is 9 takes no card; on one of 8 it is one more.
    private static void onlyWhereItCanBeLaid() {
        // Fog of 9 (and of 8, an hour later) with range 9: the cell 23 is beyond a fog of 9 alone.
        for (int fog = 8; fog <= 9; fog++) {
            int left = fog;
            Look.Script script = game -> {
                Look.alone(game);
                game.light(0, 2, 9);
                Look.fogged(game, 0, left);
                game.light(0, 0, (8 - game.count(0)) % 8);
                game.ship(60, 14, 32);
                game.rock(23);
            };
            BeamKeepers game = Look.made(script);
            Check.due("lit now", game.cellOf(23, 2), fog == 8 ? 1 : 0);
            Check.due("in an hour", game.ifPassed(1), fog == 8 ? 0 : 1);
            Check.due("in two", game.ifPassed(2), 1);
            // Sooner, but not more: within ten hours it is wrecked without a card, too.
            Look.refused("bestCard", script, g -> g.bestCard(2), NONE);
        }
    }

    // "The most worth": not the most ships.
    private static void mostWorth() {
        // By a card on light 0 the ships before 55 are wrecked, by one on light 1 that before 44, too.
        for (int worth = 1; worth <= 3; worth++) {
            int asked = worth;
            Look.Script script = game -> {
                lights(game, 5, 4, 9);
                game.ship(asked, 35, 53);
                game.ship(9, 46, 64);
                game.rock(44);
                game.rock(55);
            };
            Check.due("held for ever", Look.made(script).ifPassed(40), 0);
            Look.refused("most by light 1", script, game -> game.bestCard(3), 1);
            Look.refused("less by light 0", script, game -> game.bestCard(1), 0);
        }
    }

    // "Of several the lowest."
    private static void lowestOfSeveral() {
        int[] due = {1, 0, 0, 0};
        for (int i = 0; i < 4; i++) {
            int keeper = i;
            Look.refused("lowest", ForesightEdgesTest::held, game -> game.bestCard(keeper), due[i]);
        }
    }

    /** A ship that comes to its rock in the seventh hour, and is held there by one light an hour. */
    private static void heldFromHour6(BeamKeepers game) {
        int[] start = {1, 6, 6, 5};
        int[] range = {4, 5, 7, 7};
        for (int i = 0; i < 4; i++) {
            game.light(i, 0, start[i]);
            game.light(i, 2, range[i]);
        }
        game.card(1, 0);
        game.card(2, 0);
        game.ship(60, 74, 4);
        game.rock(4);
    }

    // "In the next 10 hours": the tenth is one of them, the eleventh not.
    private static void inTenHours() {
        Check.due("not in ten", Look.made(ForesightEdgesTest::heldFromHour6).ifPassed(10), 0);
        Check.due("in eleven", Look.made(ForesightEdgesTest::heldFromHour6).ifPassed(11), 1);
        Look.refused("a card brings it into the ten", ForesightEdgesTest::heldFromHour6, g -> g.bestCard(3), 0);
        Look.Script sooner = game -> {
            heldFromHour6(game);
            game.light(3, 3, 64);
        };
        Check.due("not in nine", Look.made(sooner).ifPassed(9), 0);
        Check.due("in ten", Look.made(sooner).ifPassed(10), 1);
        Look.refused("it is in the ten without a card", sooner, g -> g.bestCard(3), NONE);
    }

    // It tells what would be: no card is laid, no hour passes.
    private static void nothingIsLaid() {
        for (int i = 0; i < 4; i++) {
            int keeper = i;
            Look.onlyTells("bestCard", Look::busy, game -> game.bestCard(keeper));
            Look.onlyTells("bestCard", ForesightEdgesTest::line, game -> game.bestCard(keeper));
        }
        BeamKeepers game = Look.made(ForesightEdgesTest::held);
        int best = game.bestCard(3);
        Check.due("the same again", game.bestCard(3), best);
        Check.due("it can be laid", game.card(3, best), 3);
        Check.due("and brings the wreck", game.pass(10), 1);
        // With the lights behind the last hour, too.
        BeamKeepers late = Look.made(g -> {
            Look.toHour(g, 9996);
            held(g);
        });
        Check.due("in the last hours", late.bestCard(3), 0);
    }
}
