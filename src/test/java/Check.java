/** Counts the answers that are not as due. */
final class Check {
    private static int made = 0;
    private static int wrong = 0;

    private Check() {
    }

    static void due(String call, double got, double want) {
        made++;
        if (got != want) {
            wrong++;
            System.out.println("  " + call + " answered " + got + ", due is " + want);
        }
    }

    /** Types a text in place of the one that was. */
    static void write(BeamKeepers game, String text) {
        game.clearText();
        for (int i = 0; i < text.length(); i++) {
            game.type(text.charAt(i));
        }
    }

    /** Types a text and does it. */
    static int does(BeamKeepers game, String text) {
        write(game, text);
        return game.doAll();
    }

    /**
     * Everything that the face tells of the state, so that two states can be held together. It
     * takes some 170 calls, and 6 more for each ship: an object can be asked twice in its 512 calls.
     */
    static String told(BeamKeepers game) {
        StringBuilder all = new StringBuilder();
        for (int what = 0; what <= 10; what++) {
            all.append(game.count(what)).append(' ');
        }
        all.append(game.count(13)).append('|');
        for (int cell = 0; cell < 100; cell++) {
            all.append(game.cellOf(cell, 0));
        }
        for (int i = 0; i < 4; i++) {
            for (int what = 0; what <= 6; what++) {
                all.append(' ').append(game.lightOf(i, what));
            }
            for (int what = 0; what <= 4; what++) {
                all.append(' ').append(game.keeperOf(i, what));
            }
        }
        for (int i = 0; i <= 8; i++) {
            boolean known = game.shipOf(i, 0) != BeamKeepers.UNKNOWN;
            for (int what = 0; known && what <= 6; what++) {
                all.append(' ').append(game.shipOf(i, what));
            }
            all.append('|');
        }
        return all.toString();
    }

    static void same(String call, BeamKeepers game, String before) {
        due(call + " changed the state", told(game).equals(before) ? 0 : 1, 0);
    }

    static void end() {
        System.out.println(made + " answers looked at, " + wrong + " not as due");
        if (wrong != 0 || made == 0) {
            System.exit(1);
        }
    }
}
