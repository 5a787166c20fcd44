/** The edges that "TEXTS" and promises 5, 9, 10 and 11 name. */
public final class TextEdgesTest {
    private static final int FULL = BeamKeepers.FULL;
    private static final int NOT_POSSIBLE = BeamKeepers.NOT_POSSIBLE;
    private static final int NONE = BeamKeepers.NONE;
    private static final String DIGITS = "0123456789";

    /** A beginning of a text, the characters that are allowed next, and ";" among them if it can end there. */
    private static final String[][] NEXT = {
        {"", "rsdh"}, {"r", DIGITS}, {"r0", DIGITS}, {"r9", DIGITS}, {"r00", ";"}, {"r99", ";"},
        {"s", "123456789"}, {"s1", DIGITS + ":"}, {"s9", DIGITS + ":"}, {"s10", ":"}, {"s99", ":"},
        {"s1:", DIGITS}, {"s99:", DIGITS}, {"s1:0", DIGITS}, {"s1:9", DIGITS}, {"s1:00", ">"}, {"s99:99", ">"},
        {"s1:00>", DIGITS}, {"s1:00>0", DIGITS}, {"s1:00>9", DIGITS}, {"s1:00>00", ";"}, {"s99:99>99", ";"},
        {"d", "0123"}, {"d0", "01234567"}, {"d3", "01234567"}, {"d00", ";"}, {"d37", ";"},
        {"h", "123456789"}, {"h1", DIGITS + ";"}, {"h2", "0;"}, {"h3", ";"}, {"h4", ";"}, {"h5", ";"},
        {"h6", ";"}, {"h7", ";"}, {"h8", ";"}, {"h9", ";"}, {"h10", ";"}, {"h19", ";"}, {"h20", ";"},
    };

    public static void main(String[] args) {
        sixtyCharacters();
        anyCharacter();
        clearText();
        emptyText();
        eachCharacterAtEachPlace();
        endsTooEarly();
        faultIsTheFirst();
        noZeroInFront();
        greatestNumbers();
        onePartAndTwenty();
        leastAndMostOfAPart();
        xThenY();
        rocksComeAndGo();
        windsBecomeDarkAndNot();
        faultAheadOfErrors();
        firstPartWithAnError();
        whenItsTurnComes();
        allOrNothing();
        oneAct();
        textStays();
        Check.end();
    }

    private static BeamKeepers written(String text) {
        return Look.made(game -> Look.write(game, text));
    }

    // "A text of at most 60 characters": the 60th is taken, the 61st not.
    private static void sixtyCharacters() {
        BeamKeepers game = new BeamKeepers();
        for (int i = 1; i <= 60; i++) {
            Check.due("type", game.type((char) ('a' + i % 26)), i);
            Check.due("length", game.count(12), i);
        }
        String sixty = "h1;h1;h1;h1;h1;h1;h1;h1;h1;h1;h1;h1;h1;h1;h1;h1;h1;h1;h1;h10";
        Check.due("the test's text", sixty.length(), 60);
        Look.Script full = g -> {
            Look.busy(g);
            g.clearText();
            Look.write(g, sixty);
        };
        for (char sign : new char[] {'0', ';', 'r', ' ', (char) 0, (char) 65535}) {
            Look.refused("type at 60", full, g -> g.type(sign), FULL);
        }
        Check.due("it is right as it was", Look.made(full).fault(), NONE);
        BeamKeepers most = written(sixty);
        Check.due("its parts", most.doAll(), 20);
        Check.due("its hours", most.count(0), 29);
        Check.due("room again", most.clearText(), 60);
        Check.due("type then", most.type('x'), 1);
        BeamKeepers less = written(sixty.substring(0, 59));
        Check.due("the 60th", less.type('0'), 60);
    }

    // "character: any character."
    private static void anyCharacter() {
        BeamKeepers game = new BeamKeepers();
        int length = 0;
        for (int sign : new int[] {0, 1, 10, 32, 127, 128, 255, 256, 0x0661, 0xd800, 0xdfff, 65534, 65535}) {
            length++;
            Check.due("type " + sign, game.type((char) sign), length);
            Check.due("its fault", game.fault(), 0);
        }
        Look.onlyTells("fault", Look::busy, g -> g.fault());
    }

    // "Returns the length that it had": 0 is no error, and no act.
    private static void clearText() {
        BeamKeepers game = new BeamKeepers();
        Check.due("empty", game.clearText(), 0);
        game.type('r');
        Check.due("one", game.clearText(), 1);
        Check.due("empty again", game.clearText(), 0);
        Check.due("its length", game.count(12), 0);
        Check.due("its fault", game.fault(), 0);
        Look.onlyTells("clearText of an empty text", g -> {
            Look.busy(g);
            g.clearText();
        }, g -> g.clearText());
    }

    // "The length of the text if it ends too early (the empty text does)."
    private static void emptyText() {
        Check.due("fault", new BeamKeepers().fault(), 0);
        Look.refused("doAll of a new object", g -> { }, g -> g.doAll(), -100);
        Look.refused("doAll of an emptied text", g -> {
            Look.busy(g);
            g.clearText();
        }, g -> g.doAll(), -100);
    }

    /** A text of parts, each with its ";", of the length wanted (0, 3, 4 or from 6 on). */
    private static String filler(int length) {
        StringBuilder text = new StringBuilder();
        int threes = (4 - length % 4) % 4;
        for (int i = 0; i < threes; i++) {
            text.append("h1;");
        }
        while (text.length() < length) {
            text.append("r55;");
        }
        return text.toString();
    }

    private static void next(String ahead, String[] row, char sign) {
        String begun = ahead + row[0];
        BeamKeepers game = written(begun + sign);
        int due = begun.length();
        if (row[1].indexOf(sign) >= 0) {
            boolean complete = false;
            for (String[] other : NEXT) {
                complete |= other[0].equals(row[0] + sign) && other[1].indexOf(';') >= 0;
            }
            // Parts that NEXT has no beginning for, but that can end there.
            complete |= row[0].length() == 2 && row[0].charAt(0) != 's' && sign != ';';
            complete |= row[0].length() == 7 && sign != '>';
            complete |= row[0].equals("h");
            due = complete ? NONE : begun.length() + 1;
        }
        Check.due("fault of \"" + begun + "\" and " + (int) sign, game.fault(), due);
    }

    // "The index, from 0, of the first character that is not allowed at its place."
    private static void eachCharacterAtEachPlace() {
        for (String[] row : NEXT) {
            String[] ahead = {"", "r00;", "s12:34>56;", filler(59 - row[0].length())};
            for (int i = 0; i < ahead.length; i++) {
                for (char sign = 0; sign < 320; sign++) {
                    next(ahead[i], row, sign);
                }
                for (int k = 0; k < row[1].length(); k++) {
                    next(ahead[i], row, (char) (row[1].charAt(k) + 512));
                    next(ahead[i], row, (char) (row[1].charAt(k) + 65536 - 256));
                }
                next(ahead[i], row, (char) 0x0661);
                next(ahead[i], row, (char) 65535);
            }
        }
    }

    private static void endsTooEarly() {
        for (String[] row : NEXT) {
            boolean canEnd = row[1].indexOf(';') >= 0;
            for (String ahead : new String[] {"", "h20;", filler(60 - row[0].length())}) {
                String text = ahead + row[0];
                Check.due("fault of \"" + text + "\"", written(text).fault(), canEnd ? NONE : text.length());
                if (!canEnd) {
                    Check.due("doAll of \"" + text + "\"", written(text).doAll(), -100 - text.length());
                }
            }
        }
        Look.refused("doAll with fault 60", game -> Look.write(game, filler(60)), game -> game.doAll(), -160);
        Check.due("a text of 60 ends too early", written(filler(60)).fault(), 60);
    }

    // Of several faults the first one is told.
    private static void faultIsTheFirst() {
        Check.due("two faults", written("r1x;h0").fault(), 2);
        Check.due("a fault, and it ends too early", written("h0;r1").fault(), 1);
        Check.due("a fault in the second part", written("r11;h0;d9").fault(), 5);
        Check.due("a fault after the greatest number", written("h20;h21;h22").fault(), 6);
        Check.due("two ;", written("r11;;r12").fault(), 4);
        Look.refused("doAll of two faults", game -> Look.write(game, "r11;h0;d9"), game -> game.doAll(), -105);
    }

    // "Other numbers have no zero in front." Cells have two digits, and may begin with one.
    private static void noZeroInFront() {
        Check.due("hours", written("h01").fault(), 1);
        Check.due("hours of 0", written("h0").fault(), 1);
        Check.due("worth", written("s01:00>01").fault(), 1);
        Check.due("worth of 0", written("s0:00>01").fault(), 1);
        Check.due("light 0 is no zero in front", written("d00").fault(), NONE);
        Check.due("cells", written("r00;s5:01>00").fault(), NONE);
    }

    // "A digit by which a number would be greater than told is not allowed."
    private static void greatestNumbers() {
        for (int worth = 1; worth <= 120; worth++) {
            Check.due("worth " + worth, written("s" + worth + ":00>01").fault(), worth <= 99 ? NONE : 3);
        }
        for (int hours = 1; hours <= 120; hours++) {
            int due = hours <= 20 ? NONE : hours < 100 ? 2 : 3;
            Check.due("hours " + hours, written("h" + hours).fault(), due);
        }
        for (int cell = 0; cell <= 99; cell++) {
            String two = "" + cell / 10 + cell % 10;
            Check.due("cell " + two, written("r" + two).fault(), NONE);
            Check.due("cells " + two, written("s1:" + two + ">" + two).fault(), NONE);
            int due = cell / 10 > 3 ? 1 : cell % 10 > 7 ? 2 : NONE;
            Check.due("dark wind " + two, written("d" + two).fault(), due);
        }
    }

    // "A text is one or more parts": the most that 60 characters hold are twenty.
    private static void onePartAndTwenty() {
        Check.due("one part", written("h1").doAll(), 1);
        StringBuilder text = new StringBuilder("h1");
        for (int parts = 2; parts <= 20; parts++) {
            text.append(";h1");
            BeamKeepers game = written(text.toString());
            Check.due("parts", game.doAll(), parts);
            Check.due("hours", game.count(0), parts);
            Check.due("one act", game.count(11), 1);
        }
        text.append(';');
        Check.due("a text of 60 with twenty parts", text.length(), 60);
        Check.due("ends too early for one more", written(text.toString()).fault(), 60);
        Look.refused("doAll of it", game -> Look.write(game, text.toString()), game -> game.doAll(), -160);
        Check.due("fifteen of four", written("r11;r12;r13;r14;r15;r16;r17;r18;r19;r10;r11;r12;r13;r14;r15").doAll(), 15);
        Check.due("six ships", written("s1:00>01;s1:01>02;s1:02>03;s1:03>04;s1:04>05;s1:05>06").doAll(), 6);
    }

    // The ends of each range, as the calls tell them afterwards.
    private static void leastAndMostOfAPart() {
        BeamKeepers game = written("s1:00>99;s99:99>00;r01;r98;d00;d37;h1;h20");
        Check.due("parts", game.doAll(), 8);
        Check.due("least worth", game.shipOf(0, 0), 1);
        Check.due("most worth", game.shipOf(1, 0), 99);
        Check.due("from the first cell", game.shipOf(0, 2), 99);
        Check.due("from the last cell", game.shipOf(1, 2), 0);
        Check.due("rock in x 0, y 1", game.cellOf(10, 0), 1);
        Check.due("rock in x 9, y 8", game.cellOf(89, 0), 1);
        Check.due("two rocks", game.count(1), 2);
        Check.due("wind 0 of light 0", game.lightOf(0, 3), 1);
        Check.due("wind 7 of light 3", game.lightOf(3, 3), 128);
        Check.due("hours", game.count(0), 21);
        BeamKeepers corners = written("r00;r99");
        Check.due("corners", corners.doAll(), 2);
        Check.due("first cell", corners.cellOf(0, 0), 1);
        Check.due("last cell", corners.cellOf(99, 0), 1);
    }

    // "A cell is two digits, x and y."
    private static void xThenY() {
        for (String two : new String[] {"01", "10", "90", "09", "38", "83", "21", "12"}) {
            int cell = 10 * (two.charAt(1) - '0') + two.charAt(0) - '0';
            BeamKeepers rock = written("r" + two);
            rock.doAll();
            Check.due("rock " + two, rock.cellOf(cell, 0), 1);
            BeamKeepers ship = written("s7:" + two + ">55;s8:44>" + two);
            ship.doAll();
            Check.due("ship from " + two, ship.shipOf(0, 1), cell);
            Check.due("ship to " + two, ship.shipOf(1, 2), cell);
        }
    }

    // "A rock comes there, or is taken away."
    private static void rocksComeAndGo() {
        BeamKeepers game = written("r95");
        for (int i = 1; i <= 4; i++) {
            Check.due("doAll", game.doAll(), 1);
            Check.due("rock", game.cellOf(59, 0), i % 2);
        }
        BeamKeepers twice = written("r95;r95;r59");
        Check.due("twice in one text", twice.doAll(), 3);
        Check.due("one rock", twice.count(1), 1);
        Check.due("the other cell", twice.cellOf(95, 0), 1);
    }

    // "This wind becomes dark, or is not any more."
    private static void windsBecomeDarkAndNot() {
        for (int light = 0; light < 4; light++) {
            for (int wind = 0; wind < 8; wind++) {
                BeamKeepers game = written("d" + light + wind);
                game.light(light, 3, 170);
                Check.due("doAll", game.doAll(), 1);
                Check.due("wind " + wind, game.lightOf(light, 3), 170 ^ 1 << wind);
                Check.due("doAll again", game.doAll(), 1);
                Check.due("wind " + wind, game.lightOf(light, 3), 170);
                Check.due("another light", game.lightOf((light + 1) % 4, 3), 0);
            }
        }
        BeamKeepers all = written("d10;d11;d12;d13;d14;d15;d16;d17");
        all.doAll();
        Check.due("all winds", all.lightOf(1, 3), 255);
        all.doAll();
        Check.due("none of them", all.lightOf(1, 3), 0);
    }

    private static Look.Script busyWith(String text) {
        return game -> {
            Look.busy(game);
            game.clearText();
            Look.write(game, text);
        };
    }

    private static void nothing(String text, int due) {
        Look.refused("doAll of " + text, busyWith(text), game -> game.doAll(), due);
    }

    // "-100 minus the fault of the text if it has one; otherwise the error ..."
    private static void faultAheadOfErrors() {
        nothing("r22;x", -104);
        nothing("r22;", -104);
        nothing("s5:00>00;h21", -111);
        nothing("r22", NOT_POSSIBLE);
        nothing("r11;h1;r12;h", -112);
        nothing("x", -100);
        nothing("h0", -101);
    }

    // "The error that rock(), ship() or pass() returns for the first part that has one."
    private static void firstPartWithAnError() {
        for (String text : new String[] {"s5:77>77;h20", "r22;h20", "r77;h20", "s5:11>11;h20"}) {
            Look.refused("then full: " + text, late(text), game -> game.doAll(), NOT_POSSIBLE);
        }
        for (String text : new String[] {"h20;s5:11>11", "h20;r22", "h10;h10;r22", "r11;h20;r22"}) {
            Look.refused("full first: " + text, late(text), game -> game.doAll(), FULL);
        }
        Look.Script eight = game -> {
            for (int i = 0; i < 8; i++) {
                game.ship(5, i, 99);
            }
        };
        Look.refused("a ninth ship, then a light's cell", game -> {
            eight.play(game);
            Look.write(game, "s5:90>91;r22");
        }, game -> game.doAll(), FULL);
        Look.refused("a light's cell, then a ninth ship", game -> {
            eight.play(game);
            Look.write(game, "r22;s5:90>91");
        }, game -> game.doAll(), NOT_POSSIBLE);
        Look.refused("a ninth ship to its own cell", game -> {
            eight.play(game);
            Look.write(game, "s5:90>90");
        }, game -> game.doAll(), NOT_POSSIBLE);
    }

    private static Look.Script late(String text) {
        return game -> {
            Look.toHour(game, 9985);
            Look.write(game, text);
        };
    }

    // "... when its turn comes": by what the parts ahead of it did.
    private static void whenItsTurnComes() {
        nothing("r11;s5:11>12", NOT_POSSIBLE);
        nothing("r11;s5:12>11", NOT_POSSIBLE);
        nothing("s5:11>12;s5:11>13", NOT_POSSIBLE);
        Look.act("a rock that is gone", busyWith("r11;r11;s5:11>12"), game -> game.doAll(), 3);
        Look.act("a ship that left", busyWith("s5:11>31;h1;s5:11>13"), game -> game.doAll(), 3);
        Look.act("a ship that came home", busyWith("s5:11>12;h1;s5:12>13"), game -> game.doAll(), 3);
        Look.act("on the busy game's rock", busyWith("r88;s5:88>99"), game -> game.doAll(), 2);
        nothing("s5:88>99", NOT_POSSIBLE);
        Look.act("hours up to 9999", late("h10;h4"), game -> game.doAll(), 2);
        Look.refused("hours beyond 9999", late("h10;h5"), game -> game.doAll(), FULL);
    }

    // "All of it or nothing": an error of the last part takes back all parts ahead of it.
    private static void allOrNothing() {
        nothing("r11;s9:20>29;d12;h20;r22", NOT_POSSIBLE);
        nothing("h5;h5;h5;s5:34>34", NOT_POSSIBLE);
        nothing("r33;r88;r10;d37;d00;r22", NOT_POSSIBLE);
        nothing("s5:60>61;s5:70>71;s5:80>81;s5:90>91", FULL);
        nothing("d00;d37;r22", NOT_POSSIBLE);
    }

    // "This is one act."
    private static void oneAct() {
        Look.act("one part", busyWith("r11"), game -> game.doAll(), 1);
        Look.act("many parts", busyWith("r11;s9:20>29;d12;h20;r33"), game -> game.doAll(), 5);
        Look.act("parts that change nothing together", busyWith("d12;d12;r11;r11"), game -> game.doAll(), 4);
        Look.act("on a new object", game -> Look.write(game, "r11;h1"), game -> game.doAll(), 2);
    }

    // "Does what the text tells, which stays."
    private static void textStays() {
        BeamKeepers game = written("h1;h2");
        for (int i = 1; i <= 5; i++) {
            Check.due("doAll", game.doAll(), 2);
            Check.due("hour", game.count(0), 3 * i);
            Check.due("length", game.count(12), 5);
        }
        game.undo();
        Check.due("length after undo", game.count(12), 5);
        Check.due("typed on", game.type('0'), 6);
        Check.due("doAll", game.doAll(), 2);
        Check.due("hour", game.count(0), 12 + 21);
        BeamKeepers wrong = written("r22");
        Check.due("error", wrong.doAll(), NOT_POSSIBLE);
        Check.due("stays with an error", wrong.clearText(), 3);
        BeamKeepers fault = written("r2");
        Check.due("fault", fault.doAll(), -102);
        Check.due("stays with a fault", fault.type('1'), 3);
        Check.due("right now", fault.doAll(), 1);
        Check.due("x 2, y 1", fault.cellOf(12, 0), 1);
    }
}
