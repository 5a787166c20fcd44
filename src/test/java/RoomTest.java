import java.lang.management.ManagementFactory;

/** The room that all calls of a run share: a call makes nothing that stays or goes. */
public final class RoomTest {
    private static final int GAMES = 20;
    // Each round takes 91 calls, and an object is used for at most 512.
    private static final int ROUNDS = 5;

    public static void main(String[] args) {
        callAll(games());
        BeamKeepers[] games = games();
        allocated();
        allocated();
        long before = allocated();
        long measured = allocated() - before;
        before = allocated();
        callAll(games);
        long made = allocated() - before - measured;
        // Some bytes are the machine's own; a call that makes an object makes far more.
        Check.due("bytes made by calls: " + made, made < 1000 ? 1 : 0, 1);
        Check.end();
    }

    private static BeamKeepers[] games() {
        BeamKeepers[] games = new BeamKeepers[GAMES];
        for (int i = 0; i < GAMES; i++) {
            games[i] = new BeamKeepers();
        }
        return games;
    }

    private static void callAll(BeamKeepers[] games) {
        for (BeamKeepers game : games) {
            for (int round = 0; round < ROUNDS; round++) {
                calls(game, round);
            }
        }
    }

    private static long allocated() {
        com.sun.management.ThreadMXBean bean =
            (com.sun.management.ThreadMXBean) ManagementFactory.getThreadMXBean();
        return bean.getThreadAllocatedBytes(Thread.currentThread().getId());
    }

    private static void calls(BeamKeepers game, int i) {
        game.rock(i);
        game.light(0, 0, i % 8);
        game.ship(5, 90 - i, i);
        game.type('h');
        game.type('9');
        game.fault();
        game.doAll();
        game.clearText();
        game.card(0, 1);
        game.pass(3);
        game.wage(i % 10);
        game.keep();
        game.restore();
        game.undo();
        for (int what = 0; what < 14; what++) {
            game.cellOf(i, what);
            game.lightOf(1, what);
            game.keeperOf(1, what);
            game.shipOf(0, what);
            game.count(what);
        }
        game.isLit(0, i, 5, 0);
        game.isLit(0, i, 5, 1);
        game.why(0, i);
        game.share(i);
        game.litIn(i);
        game.ifPassed(40);
        game.bestCard(2);
    }
}
