/** The edges that "LIGHTS" and promises 3, 16, 19, 20 and 22 name. */
public final class LightEdgesTest {
    private static final int[] OUT = {-1, 4, Integer.MIN_VALUE, Integer.MAX_VALUE};
    private static final String[] WHAT = {"start", "pace", "range", "dark winds"};
    private static final int[] LEAST = {0, 1, 1, 0};
    private static final int[] MOST = {7, 3, 9, 255};
    private static final int UNKNOWN = BeamKeepers.UNKNOWN;
    private static final int BAD_VALUE = BeamKeepers.BAD_VALUE;
    private static final int NONE = BeamKeepers.NONE;

    public static void main(String[] args) {
        atFirst();
        firstAndLastLight();
        noSuchLight();
        leastAndMostOfASetting();
        noSuchSetting();
        soAlready();
        hoursFromZero();
        beamTurnsModulo8();
        beamInTheLastHours();
        ownCellAlways();
        rangeLessFog();
        fogBeyondTheRange();
        darkWinds();
        litCellsAndRocks();
        litCorners();
        hoursAndWaysOfIsLit();
        noSuchWhatOfALight();
        theFirstReason();
        reasonsAtTheirEdges();
        sharesFromNoneToAll();
        shareOfEightHoursFromNow();
        shareByTheFogOfNow();
        Check.end();
    }

    // "A start (its own number at first), a pace (1), a range (5), dark winds (none), fog (0)."
    private static void atFirst() {
        BeamKeepers game = new BeamKeepers();
        for (int i = 0; i < 4; i++) {
            int[] due = {i, 1, 5, 0, 0, i};
            for (int what = 0; what < due.length; what++) {
                Check.due("at first " + i + " " + what, game.lightOf(i, what), due[what]);
            }
            Check.due("first change of start", game.light(i, 0, 7 - i), i);
        }
    }

    private static void firstAndLastLight() {
        for (int i = 0; i < 4; i += 3) {
            int light = i;
            Look.act("light " + i, Look::busy, game -> game.light(light, 2, 9), 5);
            BeamKeepers game = new BeamKeepers();
            Check.due("why", game.why(light, light == 0 ? 22 : 77), 0);
            Check.due("isLit", game.isLit(light, light == 0 ? 22 : 77, 0, 0), 1);
            Check.due("lightOf", game.lightOf(light, 0), light);
        }
    }

    private static void noSuchLight() {
        for (int out : OUT) {
            for (int what = 0; what < 4; what++) {
                int asked = what;
                Look.refused("light " + out, Look::busy, game -> game.light(out, asked, 2), UNKNOWN);
            }
            for (int what = 0; what <= 6; what++) {
                int asked = what;
                Look.refused("lightOf " + out, Look::busy, game -> game.lightOf(out, asked), UNKNOWN);
            }
            Look.refused("isLit " + out, Look::busy, game -> game.isLit(out, 22, 0, 0), UNKNOWN);
            Look.refused("isLit by walk " + out, Look::busy, game -> game.isLit(out, 22, 0, 1), UNKNOWN);
            Look.refused("why " + out, Look::busy, game -> game.why(out, 22), UNKNOWN);
        }
    }

    // "0 its start (0 to 7), 1 its pace (1 to 3), 2 its range (1 to 9), 3 its dark winds (0 to 255)."
    private static void leastAndMostOfASetting() {
        for (int i = 0; i < 4; i++) {
            int what = i;
            Look.Script most = game -> game.light(2, what, MOST[what]);
            Look.Script least = game -> {
                game.light(2, what, MOST[what]);
                game.light(2, what, LEAST[what]);
            };
            Check.due("most " + WHAT[i], Look.made(most).lightOf(2, what), MOST[what]);
            Check.due("least " + WHAT[i], Look.made(least).lightOf(2, what), LEAST[what]);
            Look.act("to the least " + WHAT[i], most, game -> game.light(2, what, LEAST[what]), MOST[what]);
            Look.act("to the most " + WHAT[i], least, game -> game.light(2, what, MOST[what]), LEAST[what]);
            int[] out = {LEAST[i] - 1, MOST[i] + 1, Integer.MIN_VALUE, Integer.MAX_VALUE};
            for (int value : out) {
                String name = WHAT[i] + " " + value;
                Look.refused(name, Look::busy, game -> game.light(2, what, value), BAD_VALUE);
                Look.refused(name + " from the most", most, game -> game.light(2, what, value), BAD_VALUE);
                Look.refused(name + " from the least", least, game -> game.light(2, what, value), BAD_VALUE);
            }
        }
    }

    // Fog is told by 4, but is no setting.
    private static void noSuchSetting() {
        for (int what : new int[] {-1, 4, 5, 6, Integer.MIN_VALUE, Integer.MAX_VALUE}) {
            for (int value : new int[] {0, 1, 7}) {
                Look.refused("setting " + what, Look::busy, game -> game.light(1, what, value), BAD_VALUE);
            }
        }
    }

    // "NONE if it is so already."
    private static void soAlready() {
        int[][] busy = {{5, 1, 5, 16}, {1, 3, 4, 0}, {2, 1, 8, 0}, {3, 1, 5, 255}};
        for (int i = 0; i < 4; i++) {
            for (int j = 0; j < 4; j++) {
                int light = i;
                int what = j;
                int value = busy[i][j];
                Check.due("so it is", Look.made(Look::busy).lightOf(i, j), value);
                Look.refused("same " + WHAT[j], Look::busy, game -> game.light(light, what, value), NONE);
            }
        }
        // On a new object, too: nothing is recorded.
        for (int j = 0; j < 4; j++) {
            int what = j;
            int value = new int[] {0, 1, 5, 0}[j];
            Look.refused("as at first", game -> { }, game -> game.light(0, what, value), NONE);
        }
    }

    // "Hours are numbered from 0; the hour of now is 0 at first."
    private static void hoursFromZero() {
        BeamKeepers game = new BeamKeepers();
        Check.due("hour", game.count(0), 0);
        Check.due("beam of hour 0", game.lightOf(3, 5), 3);
        Check.due("lit in hour 0", game.isLit(0, 24, 0, 0), 1);
        Check.due("pass", game.pass(1), 0);
        Check.due("hour", game.count(0), 1);
        Check.due("beam of hour 1", game.lightOf(3, 5), 4);
    }

    // "In the hour h its beam is in the wind (start + h * pace) modulo 8."
    private static void beamTurnsModulo8() {
        // start, pace, hour, wind
        int[][] beams = {
            {0, 1, 7, 7}, {0, 1, 8, 0}, {7, 1, 0, 7}, {7, 1, 1, 0}, {7, 2, 1, 1}, {7, 3, 1, 2}, {6, 2, 1, 0},
            {5, 3, 1, 0}, {5, 1, 2, 7}, {0, 3, 3, 1}, {0, 2, 4, 0}, {1, 2, 3, 7}, {2, 3, 2, 0}, {7, 3, 16, 7},
        };
        for (int[] beam : beams) {
            BeamKeepers game = new BeamKeepers();
            game.light(0, 0, beam[0]);
            game.light(0, 1, beam[1]);
            turnedTo(game, beam[2], beam[3]);
            if (beam[2] > 0) {
                game.pass(beam[2]);
            }
            Check.due("beam of " + beam[0] + " + " + beam[2] + " * " + beam[1], game.lightOf(0, 5), beam[3]);
        }
    }

    // In the hours to which isLit() goes the sum is far beyond 8.
    private static void beamInTheLastHours() {
        int[][] beams = {
            {0, 1, 20000, 0}, {7, 3, 20000, 7}, {7, 3, 19999, 4}, {5, 2, 19999, 3}, {1, 1, 19999, 0}, {0, 1, 9999, 7},
        };
        for (int[] beam : beams) {
            BeamKeepers game = new BeamKeepers();
            game.light(0, 0, beam[0]);
            game.light(0, 1, beam[1]);
            turnedTo(game, beam[2], beam[3]);
        }
        int[] wind = {7, 6, 5};
        BeamKeepers late = Look.made(game -> Look.toHour(game, 9999));
        for (int pace = 1; pace <= 3; pace++) {
            late.light(0, 1, pace);
            Check.due("beam in the hour 9999, pace " + pace, late.lightOf(0, 5), wind[pace - 1]);
        }
        late.light(0, 1, 1);
        late.light(0, 0, 1);
        Check.due("seen in the hour 9999", late.why(0, 24), 0);
        Check.due("from the hour 9999 on", late.share(24) >= 0.125f ? 1 : 0, 1);
    }

    /** Two cells from light 0, one for each wind. */
    private static void turnedTo(BeamKeepers game, int hour, int wind) {
        int[] near = {24, 44, 42, 40, 20, 0, 2, 4};
        for (int i = 0; i < 8; i++) {
            Check.due("wind " + i + " in hour " + hour, game.isLit(0, near[i], hour, 0), i == wind ? 1 : 0);
            Check.due("by walk: wind " + i, game.isLit(0, near[i], hour, 1), i == wind ? 1 : 0);
        }
    }

    // "It lights its own cell always."
    private static void ownCellAlways() {
        int[] own = {22, 27, 72, 77};
        for (int i = 0; i < 4; i++) {
            int light = i;
            BeamKeepers game = Look.made(g -> {
                g.light(light, 3, 255);
                g.light(light, 2, 1);
                Look.fogged(g, light, 9);
            });
            for (int hour = 0; hour <= 20000; hour += 2500) {
                Check.due("own cell", game.isLit(i, own[i], hour, 0), 1);
                Check.due("own cell by walk", game.isLit(i, own[i], hour, 1), 1);
            }
            Check.due("now", game.cellOf(own[i], 2) >> i & 1, 1);
            Check.due("why", game.why(i, own[i]), 0);
            Check.due("cells", game.lightOf(i, 6), 1);
            Check.due("beside it", game.why(i, own[i] + 1), 1);
        }
    }

    // "Each cell in the wind of its beam whose distance is at most its range less its fog."
    private static void rangeLessFog() {
        int[] cellsByReach = {1, 2, 5, 8, 13, 18, 24, 30, 30, 30};
        for (int range = 1; range <= 9; range++) {
            for (int fog = 0; fog <= 9; fog++) {
                BeamKeepers game = new BeamKeepers();
                Look.alone(game);
                game.light(0, 2, range);
                Look.fogged(game, 0, fog);
                int hour = 9 - fog;
                game.light(0, 0, (8 - hour % 8) % 8);
                int reach = Math.max(0, range - fog);
                String name = "range " + range + ", fog " + fog;
                Check.due(name + ": fog", game.lightOf(0, 4), fog);
                Check.due(name + ": beam", game.lightOf(0, 5), 0);
                Check.due(name + ": cells", game.lightOf(0, 6), cellsByReach[reach]);
                Check.due(name + ": all lit cells", game.count(7), cellsByReach[reach] + (reach < 5 ? 3 : 2));
                for (int distance = 1; distance <= 7; distance++) {
                    int cell = 22 + distance;
                    int due = distance <= reach ? 1 : 0;
                    String at = name + ", distance " + distance;
                    Check.due(at + ": by wind", game.isLit(0, cell, hour, 0), due);
                    Check.due(at + ": by walk", game.isLit(0, cell, hour, 1), due);
                    Check.due(at + ": now", game.cellOf(cell, 2) & 1, due);
                    Check.due(at + ": why", game.why(0, cell), due == 1 ? 0 : distance > range ? 2 : 3);
                }
            }
        }
    }

    private static void fogBeyondTheRange() {
        BeamKeepers game = new BeamKeepers();
        game.light(0, 2, 1);
        game.card(1, 0);
        game.card(1, 0);
        game.card(1, 0);
        for (int hour = 0; hour < 8; hour++) {
            for (int cell : new int[] {23, 33, 32, 31, 21, 11, 12, 13}) {
                Check.due("by wind", game.isLit(0, cell, hour, 0), 0);
                Check.due("by walk", game.isLit(0, cell, hour, 1), 0);
                Check.due("why", game.why(0, cell), 3);
            }
        }
        Check.due("its own cell alone", game.lightOf(0, 6), 1);
    }

    // "A set of dark winds (bits)": bit 0 the east, bit 7 the north-east.
    private static void darkWinds() {
        int[] near = {23, 33, 32, 31, 21, 11, 12, 13};
        for (int wind = 0; wind < 8; wind++) {
            BeamKeepers one = new BeamKeepers();
            one.light(0, 3, 1 << wind);
            BeamKeepers others = new BeamKeepers();
            others.light(0, 3, 255 ^ 1 << wind);
            for (int hour = 0; hour < 8; hour++) {
                for (int way = 0; way < 2; way++) {
                    Check.due("one dark wind", one.isLit(0, near[hour], hour, way), hour == wind ? 0 : 1);
                    Check.due("one wind that is not", others.isLit(0, near[hour], hour, way), hour == wind ? 1 : 0);
                }
                int turned = hour == 0 ? 0 : 4;
                Check.due("why, one dark wind", one.why(0, near[hour]), hour == wind ? 1 : turned);
                Check.due("why, one that is not", others.why(0, near[hour]), hour == wind ? turned : 1);
            }
        }
        BeamKeepers none = new BeamKeepers();
        BeamKeepers all = new BeamKeepers();
        all.light(0, 3, 255);
        for (int hour = 0; hour < 8; hour++) {
            Check.due("no dark wind", none.isLit(0, near[hour], hour, 0), 1);
            Check.due("all winds dark", all.isLit(0, near[hour], hour, 0), 0);
            Check.due("all winds dark, by walk", all.isLit(0, near[hour], hour, 1), 0);
        }
    }

    // "6 for rocks that are lit now, 7 for cells that are lit now": from none to all of them.
    private static void litCellsAndRocks() {
        Look.Script rocks = game -> {
            for (int cell = 0; cell < 100; cell++) {
                game.rock(cell);
            }
        };
        BeamKeepers game = Look.made(rocks);
        int lit = 0;
        for (int cell = 0; cell < 100; cell++) {
            lit += game.cellOf(cell, 2) > 0 ? 1 : 0;
        }
        Check.due("lit cells", game.count(7), lit);
        Check.due("lit rocks: all but the lights' own cells", game.count(6), lit - 4);
        Look.dark(game);
        Check.due("no lit cells but the lights' own", game.count(7), 4);
        Check.due("no lit rocks", game.count(6), 0);
        BeamKeepers none = new BeamKeepers();
        Check.due("no rocks", none.count(6), 0);
        Look.alone(none);
        none.rock(24);
        none.rock(42);
        none.rock(28);
        Check.due("one is lit, one is not, one is beyond the range", none.count(6), 1);
        // One cell that several lights light counts once.
        BeamKeepers meeting = new BeamKeepers();
        int[] wind = {1, 3, 7, 5};
        int alone = 0;
        for (int i = 0; i < 4; i++) {
            meeting.light(i, 0, wind[i]);
            meeting.light(i, 2, 3);
            alone += meeting.lightOf(i, 6);
        }
        meeting.rock(44);
        Check.due("a set of all lights", meeting.cellOf(44, 2), 15);
        Check.due("one lit rock", meeting.count(6), 1);
        Check.due("less than all lights' cells", meeting.count(7) < alone ? 1 : 0, 1);
    }

    // The first and the last cell of the chart are among those that are counted.
    private static void litCorners() {
        int[] corner = {0, 9, 90, 99};
        int[] wind = {5, 7, 3, 1};
        for (int i = 0; i < 4; i++) {
            BeamKeepers game = Look.made(Look::dark);
            game.light(i, 3, 0);
            game.light(i, 0, wind[i]);
            game.rock(corner[i]);
            Check.due("lit by " + i, game.cellOf(corner[i], 2), 1 << i);
            Check.due("own cell and two", game.lightOf(i, 6), 3);
            Check.due("with the other lights' own", game.count(7), 6);
            Check.due("a lit rock", game.count(6), 1);
        }
    }

    // "hour: 0 to 20000"; "way": 0 or 1.
    private static void hoursAndWaysOfIsLit() {
        for (int way = 0; way < 2; way++) {
            int asked = way;
            for (int hour : new int[] {-1, 20001, Integer.MIN_VALUE, Integer.MAX_VALUE}) {
                Look.refused("isLit in hour " + hour, Look::busy, game -> game.isLit(0, 22, hour, asked), BAD_VALUE);
            }
            BeamKeepers game = new BeamKeepers();
            Check.due("hour 0", game.isLit(0, 24, 0, way), 1);
            Check.due("hour 1", game.isLit(0, 24, 1, way), 0);
            Check.due("hour 20000", game.isLit(0, 24, 20000, way), 1);
            Check.due("hour 19999", game.isLit(0, 24, 19999, way), 0);
        }
        for (int way : new int[] {-1, 2, Integer.MIN_VALUE, Integer.MAX_VALUE}) {
            Look.refused("isLit way " + way, Look::busy, game -> game.isLit(0, 22, 0, way), BAD_VALUE);
        }
        Look.onlyTells("isLit", Look::busy, game -> game.isLit(0, 24, 0, 0) + game.isLit(0, 24, 0, 1));
    }

    // "what": 0 to 6.
    private static void noSuchWhatOfALight() {
        for (int what : new int[] {-1, 7, Integer.MIN_VALUE, Integer.MAX_VALUE}) {
            Look.refused("lightOf what " + what, Look::busy, game -> game.lightOf(3, what), BAD_VALUE);
        }
        BeamKeepers game = new BeamKeepers();
        Check.due("first", game.lightOf(3, 0), 3);
        // South-west of 77 on the chart are 86, 95 and 94.
        Check.due("last", game.lightOf(3, 6), 4);
        Look.onlyTells("lightOf", Look::busy, g -> g.lightOf(0, 6) + g.lightOf(1, 5));
    }

    // "The first of these that is so: 1 its wind is dark, 2 beyond the range, 3 beyond ... less the fog, 4 ..."
    private static void theFirstReason() {
        // Light 0 with range 4, fog 3 and a dark east; its beam is in the east or in the south.
        for (int beam = 0; beam <= 2; beam += 2) {
            BeamKeepers game = new BeamKeepers();
            game.light(0, 2, 4);
            game.light(0, 3, 1);
            game.light(0, 0, beam);
            game.card(1, 0);
            Check.due("dark alone, or with another wind", game.why(0, 23), 1);
            Check.due("dark and in fog", game.why(0, 24), 1);
            Check.due("dark and beyond the range", game.why(0, 27), 1);
            Check.due("beyond the range, and by fog", game.why(0, 72), 2);
            Check.due("in fog", game.why(0, 52), 3);
            Check.due("the beam alone", game.why(0, 32), beam == 2 ? 0 : 4);
            Check.due("beyond the range and another wind", game.why(0, 77), 2);
            Check.due("in fog and another wind", game.why(0, 44), 3);
            Check.due("another wind", game.why(0, 33), 4);
        }
    }

    private static void reasonsAtTheirEdges() {
        for (int range = 1; range <= 6; range++) {
            BeamKeepers game = new BeamKeepers();
            game.light(0, 2, range);
            Check.due("at the range", game.why(0, 22 + range), 0);
            Check.due("one beyond it", game.why(0, 23 + range), 2);
            Check.due("at the range, another wind", game.why(0, 22 + 10 * range), 4);
            Check.due("one beyond it, another wind", game.why(0, 32 + 10 * range), 2);
            if (range > 3) {
                game.card(1, 0);
                Check.due("at the range less fog", game.why(0, 22 + range - 3), 0);
                Check.due("one beyond that", game.why(0, 22 + range - 2), 3);
                Check.due("at the range", game.why(0, 22 + range), 3);
                Check.due("one beyond the range", game.why(0, 23 + range), 2);
                Check.due("less fog, another wind", game.why(0, 22 + 10 * (range - 3)), 4);
                Check.due("beyond that, another wind", game.why(0, 22 + 10 * (range - 2)), 3);
            }
        }
        Look.onlyTells("why", Look::busy, game -> game.why(0, 24) + game.why(3, 0));
    }

    // "The hours as a float, divided by 8.0f": from no hour to all eight.
    private static void sharesFromNoneToAll() {
        // The cell 44 is south-east of light 0, south-west of 1, north-east of 2, north-west of 3.
        int[] wind = {1, 3, 7, 5};
        int hours = 0;
        BeamKeepers game = new BeamKeepers();
        Look.dark(game);
        Check.due("no hour", game.share(44), 0.0);
        for (int i = 0; i < 4; i++) {
            game.light(i, 3, 0);
            game.light(i, 1, 2);
            game.light(i, 0, (wind[i] + 16 - 2 * i) % 8);
            hours += 2;
            Check.due(hours + " hours", game.share(44), hours / 8.0);
        }
        game.light(3, 1, 1);
        game.light(3, 0, 2);
        Check.due("seven hours", game.share(44), 0.875);
        Check.due("all hours", game.share(77), 1.0);
        // Lights that meet in one hour count once.
        for (int i = 0; i < 4; i++) {
            game.light(i, 1, 1);
            game.light(i, 0, wind[i]);
        }
        Check.due("four lights in one hour", game.share(44), 0.125);
        Look.onlyTells("share", Look::busy, g -> g.share(24) + g.share(99));
    }

    // "Eight hours from now on": that of now is the first one, and the eighth from now is not in it.
    private static void shareOfEightHoursFromNow() {
        BeamKeepers game = new BeamKeepers();
        Look.alone(game);
        for (int hour = 0; hour < 9; hour++) {
            Check.due("each wind once, from hour " + hour, game.share(24), 0.125);
            Check.due("south-west, from hour " + hour, game.share(40), 0.125);
            game.pass(1);
        }
    }

    // "By the fog of now": it does not thin in these hours.
    private static void shareByTheFogOfNow() {
        BeamKeepers game = new BeamKeepers();
        Look.alone(game);
        game.card(1, 0);
        game.light(0, 0, 1);
        Check.due("at range less fog", game.share(24), 0.125);
        Check.due("one beyond, though the fog will be thin", game.share(25), 0.0);
        Check.due("isLit goes by it, too", game.isLit(0, 25, 7, 0) + game.isLit(0, 25, 7, 1), 0);
        Check.due("litIn does not", game.litIn(25), 7);
        game.pass(1);
        Check.due("a fog of 2", game.share(25), 0.125);
        Check.due("a fog of 2", game.share(26), 0.0);
    }
}
