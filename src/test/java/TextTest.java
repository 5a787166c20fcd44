/** Promises 5 and 9 to 11: doAll, type, clearText, fault. */
public final class TextTest {
    public static void main(String[] args) {
        typing();
        faults();
        deeds();
        allOrNothing();
        order();
        Check.end();
    }

    private static void typing() {
        BeamKeepers game = new BeamKeepers();
        for (int i = 1; i <= 60; i++) {
            Check.due("type", game.type('r'), i);
            Check.due("length", game.count(12), i);
        }
        Check.due("type at 60", game.type('r'), BeamKeepers.FULL);
        Check.due("length at 60", game.count(12), 60);
        Check.due("clearText", game.clearText(), 60);
        Check.due("clearText again", game.clearText(), 0);
        Check.due("any character", game.type((char) 65535), 1);
        Check.due("sign 0", game.type((char) 0), 2);
        Check.due("no act", game.count(11), 0);
        Check.due("fault of any character", game.fault(), 0);
        // What was cleared is not read any more.
        String whole = "s12:34>56;d12;h19;r55";
        for (int length = 0; length < whole.length(); length++) {
            BeamKeepers once = new BeamKeepers();
            Check.write(once, whole.substring(0, length));
            game = new BeamKeepers();
            Check.write(game, whole);
            Check.due("the whole text", game.fault(), BeamKeepers.NONE);
            Check.write(game, whole.substring(0, length));
            Check.due("after a longer text", game.fault(), once.fault());
        }
    }

    private static void fault(String text, int due) {
        BeamKeepers game = new BeamKeepers();
        Check.write(game, text);
        Check.due("fault of \"" + text + "\"", game.fault(), due);
        Check.due("text stays", game.count(12), text.length());
        if (due != BeamKeepers.NONE) {
            String before = Check.told(game);
            Check.due("doAll of \"" + text + "\"", game.doAll(), -100 - due);
            Check.same("doAll of " + text, game, before);
            Check.due("no act", game.count(11), 0);
        }
    }

    private static void faults() {
        int none = BeamKeepers.NONE;
        fault("", 0);
        fault(";", 0);
        fault(" ", 0);
        fault("R11", 0);
        fault("5", 0);
        fault("r", 1);
        fault("rr", 1);
        fault("r/0", 1);
        fault("r:0", 1);
        fault("r0", 2);
        fault("r0a", 2);
        fault("r00", none);
        fault("r99", none);
        fault("r123", 3);
        fault("r12r", 3);
        fault("r12 ", 3);
        fault("r12;", 4);
        fault("r12;;", 4);
        fault("r12;x", 4);
        fault("r12;r", 5);
        fault("s", 1);
        fault("s0", 1);
        fault("s:", 1);
        fault("s1", 2);
        fault("s1x", 2);
        fault("s1;", 2);
        fault("s10", 3);
        fault("s99:", 4);
        fault("s100", 3);
        fault("s99:1", 5);
        fault("s99:12", 6);
        fault("s99:12:", 6);
        fault("s99:123", 6);
        fault("s99:12>", 7);
        fault("s99:12>>", 7);
        fault("s99:12>9", 8);
        fault("s99:12>98", none);
        fault("s99:12>987", 9);
        fault("s5:1:", 4);
        fault("s5>12", 2);
        fault("s5:12>12", none);
        fault("d", 1);
        fault("d4", 1);
        fault("d-", 1);
        fault("d0", 2);
        fault("d08", 2);
        fault("d0;", 2);
        fault("d07", none);
        fault("d30", none);
        fault("d370", 3);
        fault("h", 1);
        fault("h0", 1);
        fault("h1", none);
        fault("h01", 1);
        fault("h9", none);
        fault("h10", none);
        fault("h19", none);
        fault("h20", none);
        fault("h21", 2);
        fault("h29", 2);
        fault("h30", 2);
        fault("h99", 2);
        fault("h100", 3);
        fault("h200", 3);
        fault("h1;h2;", 6);
        fault("h1;r55;d12;s1:23>45", none);
        fault("h" + (char) ('1' + 256), 1);
        fault("r" + (char) 0x0661 + "1", 1);
        String twenty = "h1;h1;h1;h1;h1;h1;h1;h1;h1;h1;h1;h1;h1;h1;h1;h1;h1;h1;h1;h1";
        fault(twenty, none);
        fault(twenty + ";", 60);
        fault(twenty + "1", none);
        // Texts that are full, and end within each kind of part.
        String most = "r55;r55;r55;r55;r55;r55;r55;r55;r55;r55;r55;r55;";
        String[] ends = {"r55;r55;r55;", "s11:23>45;d1", "s1:23>45;d12", "d11;s99:12>3", "d12;d13;h20;",
            "s99:12>34;h2", "d12;h1;s9:12", "r12;d12;s99:", "r12;d12;h2;s", "r12;h2;s1:2", "r12;r12;h1;r"};
        int[] due = {60, 60, none, 60, 60, none, 60, 60, 60, 59, 60};
        for (int i = 0; i < ends.length; i++) {
            fault(most + ends[i], due[i]);
        }
        BeamKeepers game = new BeamKeepers();
        Check.due("twenty parts", Check.does(game, twenty), 20);
        Check.due("twenty hours", game.count(0), 20);
    }

    private static void deeds() {
        BeamKeepers game = new BeamKeepers();
        // A cell is told by its x, then its y.
        Check.due("rock", Check.does(game, "r95"), 1);
        Check.due("rock in x 9, y 5", game.cellOf(59, 0), 1);
        Check.due("no rock in 95", game.cellOf(95, 0), 0);
        Check.due("ship", Check.does(game, "s42:01>83"), 1);
        Check.due("its worth", game.shipOf(0, 0), 42);
        Check.due("its cell", game.shipOf(0, 1), 10);
        Check.due("its harbour", game.shipOf(0, 2), 38);
        Check.due("dark", Check.does(game, "d36;d30;d17"), 3);
        Check.due("dark winds of 3", game.lightOf(3, 3), 65);
        Check.due("dark winds of 1", game.lightOf(1, 3), 128);
        Check.due("not dark", Check.does(game, "d36"), 1);
        Check.due("dark winds of 3 then", game.lightOf(3, 3), 1);
        Check.due("hours", Check.does(game, "h17"), 1);
        Check.due("hour", game.count(0), 17);
        Check.due("rock taken away", Check.does(game, "r95"), 1);
        Check.due("no rock", game.count(1), 0);
        Check.due("text stays", game.clearText(), 3);
        // One act, however many parts there are.
        BeamKeepers other = new BeamKeepers();
        String before = Check.told(other);
        Check.due("many parts", Check.does(other, "r00;r01;s7:55>66;d12;h3;h4"), 6);
        Check.due("one state", other.count(11), 1);
        Check.due("undo", other.undo(), 0);
        Check.same("undo of doAll", other, before);
        Check.due("text after undo", other.count(12), 26);
        Check.due("again", other.doAll(), 6);
        Check.due("again, and on a rock", other.cellOf(0, 0), 1);
    }

    private static void nothing(BeamKeepers game, String text, int due) {
        String before = Check.told(game);
        int states = game.count(11);
        Check.due("doAll of " + text, Check.does(game, text), due);
        Check.same("doAll of " + text, game, before);
        Check.due("states", game.count(11), states);
        Check.due("text stays", game.count(12), text.length());
    }

    private static BeamKeepers withShips(int ships) {
        BeamKeepers game = new BeamKeepers();
        for (int i = 0; i < ships; i++) {
            game.ship(1, 50 + i, 99);
        }
        return game;
    }

    private static BeamKeepers late() {
        BeamKeepers game = new BeamKeepers();
        Look.toHour(game, 9990);
        return game;
    }

    private static void allOrNothing() {
        nothing(withShips(0), "r00;h5;r22", BeamKeepers.NOT_POSSIBLE);
        nothing(withShips(0), "r72", BeamKeepers.NOT_POSSIBLE);
        nothing(withShips(0), "s5:11>11", BeamKeepers.NOT_POSSIBLE);
        nothing(withShips(0), "r11;s5:11>12", BeamKeepers.NOT_POSSIBLE);
        nothing(withShips(0), "r11;s5:12>11", BeamKeepers.NOT_POSSIBLE);
        nothing(withShips(0), "d00;s5:12>11;s6:12>11", BeamKeepers.NOT_POSSIBLE);
        nothing(withShips(7), "s9:00>01;h1;s9:00>01", BeamKeepers.FULL);
        nothing(withShips(7), "s9:00>01;h1;s9:00>00", BeamKeepers.NOT_POSSIBLE);
        nothing(late(), "h9;h1", BeamKeepers.FULL);
        nothing(late(), "r22;h20", BeamKeepers.NOT_POSSIBLE);
        nothing(late(), "h20;r22", BeamKeepers.FULL);
        BeamKeepers last = late();
        Check.due("up to 9999", Check.does(last, "h5;h4"), 2);
        Check.due("hour", last.count(0), 9999);
    }

    private static void order() {
        BeamKeepers game = new BeamKeepers();
        Check.due("a rock comes and goes", Check.does(game, "r11;r11;s5:11>12"), 3);
        Check.due("a ship leaves its cell", Check.does(game, "h1;s6:11>00"), 2);
        Check.due("first is home", game.shipOf(0, 3), 1);
    }
}
