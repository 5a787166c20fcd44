/**
 * Looks, through other calls, at everything that a refused call must leave unchanged: the state of
 * now, each state of the history, the snapshot and the text. Most looks change what they look at,
 * so each is made on an object of its own, made by the same script; each object stays under the
 * 512 calls that the document allows.
 */
final class Look {
    interface Script {
        void play(BeamKeepers game);
    }

    interface Call {
        double on(BeamKeepers game);
    }

    private Look() {
    }

    static BeamKeepers made(Script script) {
        BeamKeepers game = new BeamKeepers();
        script.play(game);
        return game;
    }

    static String all(Script script) {
        StringBuilder all = new StringBuilder();
        for (int undos = 0; undos <= 4; undos++) {
            BeamKeepers game = made(script);
            all.append(game.count(11));
            for (int i = 0; i < undos; i++) {
                all.append(' ').append(game.undo());
            }
            all.append('|').append(Check.told(game)).append('\n');
        }
        BeamKeepers kept = made(script);
        all.append(kept.restore()).append('|').append(Check.told(kept)).append('\n');
        BeamKeepers written = made(script);
        all.append(written.count(12)).append(' ').append(written.fault()).append(' ');
        all.append(written.doAll()).append('|').append(Check.told(written));
        return all.toString();
    }

    /** The call answers what is due, and leaves everything as the script made it. */
    static void refused(String name, Script script, Call call, double due) {
        Check.due(name, call.on(made(script)), due);
        onlyTells(name, script, call);
    }

    static void onlyTells(String name, Script script, Call call) {
        String before = all(script);
        String after = all(game -> {
            script.play(game);
            call.on(game);
        });
        Check.due(name + " changes nothing", before.equals(after) ? 0 : 1, 0);
    }

    /** The call is an act: it answers what is due, records one state, and undo brings that back. */
    static void act(String name, Script script, Call call, double due) {
        BeamKeepers before = made(script);
        BeamKeepers game = made(script);
        int states = before.count(11);
        Check.due(name, call.on(game), due);
        Check.due(name + " records a state", game.count(11), Math.min(4, states + 1));
        Check.due(name + " is undone", game.undo(), Math.min(3, states));
        Check.due(name + " is undone wholly", Check.told(game).equals(Check.told(before)) ? 0 : 1, 0);
    }

    static void write(BeamKeepers game, String text) {
        for (int i = 0; i < text.length(); i++) {
            game.type(text.charAt(i));
        }
    }

    /**
     * A game with something of everything: ships 0 to 4 of which 0 is wrecked, 3 is home and the
     * others are at sea, debts, fog, four states, a snapshot of an earlier hour, a text. 28 calls.
     */
    static void busy(BeamKeepers game) {
        game.wage(1);
        game.light(0, 0, 5);
        game.light(1, 1, 3);
        game.light(2, 2, 8);
        game.light(3, 3, 255);
        game.light(0, 3, 16);
        game.rock(1);
        game.rock(88);
        game.ship(40, 0, 9);
        game.ship(90, 50, 59);
        game.ship(90, 51, 59);
        game.ship(7, 98, 97);
        game.ship(8, 30, 39);
        game.card(2, 1);
        game.pass(1);
        game.keep();
        game.rock(33);
        game.pass(1);
        game.card(2, 0);
        game.card(3, 1);
        game.light(1, 2, 4);
        game.wage(2);
        write(game, "r95;h2");
    }

    /** Every light dark, so that no rock is lit. */
    static void dark(BeamKeepers game) {
        for (int i = 0; i < 4; i++) {
            game.light(i, 3, 255);
        }
    }

    /** Every light dark but the light 0. */
    static void alone(BeamKeepers game) {
        for (int i = 1; i < 4; i++) {
            game.light(i, 3, 255);
        }
    }

    /** Lays three cards on a light and lets its fog thin to that wanted: 9 - fog hours pass. */
    static void fogged(BeamKeepers game, int light, int fog) {
        for (int i = 0; i < 3; i++) {
            game.card((light + 1) % 4, light);
        }
        if (fog < 9) {
            game.pass(9 - fog);
        }
    }

    /** Passes to an hour, 300 at a time as far as it goes, and empties the text: 110 calls at most. */
    static void toHour(BeamKeepers game, int hour) {
        game.clearText();
        write(game, "h20;h20;h20;h20;h20;h20;h20;h20;h20;h20;h20;h20;h20;h20;h20");
        for (int i = 0; i < hour / 300; i++) {
            game.doAll();
        }
        game.clearText();
        while (game.count(0) < hour) {
            game.pass(Math.min(20, hour - game.count(0)));
        }
    }
}
