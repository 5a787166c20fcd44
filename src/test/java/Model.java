import java.util.ArrayDeque;
import java.util.ArrayList;
import java.util.Comparator;
import java.util.Deque;
import java.util.List;
import java.util.Set;
import java.util.TreeSet;
import java.util.regex.Matcher;
import java.util.regex.Pattern;

/** The document told a second time, plainly and without care for room: what BeamKeepers is held against. */
final class Model {
    private static final int[][] LIGHT_PLACES = {{2, 2}, {7, 2}, {2, 7}, {7, 7}};
    private static final Pattern TEXT = Pattern.compile(
        "(PART)(;(PART))*".replace("PART", "r[0-9]{2}|s[1-9][0-9]?:[0-9]{2}>[0-9]{2}|d[0-3][0-7]|h([1-9]|1[0-9]|20)"));

    static final class Vessel {
        int number;
        int worth;
        int cell;
        int harbour;
        int how;
        int waited;

        Vessel copy() {
            Vessel v = new Vessel();
            v.number = number;
            v.worth = worth;
            v.cell = cell;
            v.harbour = harbour;
            v.how = how;
            v.waited = waited;
            return v;
        }
    }

    static final class World {
        Set<Integer> rocks = new TreeSet<>();
        int[][] settings = {{0, 1, 5, 0}, {1, 1, 5, 0}, {2, 1, 5, 0}, {3, 1, 5, 0}};
        int[] fog = new int[4];
        // coins, debt, cards, wrecks owed, coins paid
        int[][] keepers = {{0, 0, 3, 0, 0}, {0, 0, 3, 0, 0}, {0, 0, 3, 0, 0}, {0, 0, 3, 0, 0}};
        List<Vessel> ships = new ArrayList<>();
        int hour = 0;
        int wage = 2;

        World copy() {
            World w = new World();
            w.rocks.addAll(rocks);
            for (int i = 0; i < 4; i++) {
                w.settings[i] = settings[i].clone();
                w.keepers[i] = keepers[i].clone();
            }
            w.fog = fog.clone();
            for (Vessel v : ships) {
                w.ships.add(v.copy());
            }
            w.hour = hour;
            w.wage = wage;
            return w;
        }
    }

    World now = new World();
    final Deque<World> past = new ArrayDeque<>();
    World kept = null;
    String text = "";

    private static int east(int light, int cell) {
        return cell % 10 - LIGHT_PLACES[light][0];
    }

    private static int south(int light, int cell) {
        return cell / 10 - LIGHT_PLACES[light][1];
    }

    private static int distance(int light, int cell) {
        return Math.max(Math.abs(east(light, cell)), Math.abs(south(light, cell)));
    }

    // By the angle: the borders lie at slopes of a half and of two, and belong to the straight winds.
    private static int wind(int light, int cell) {
        int dx = east(light, cell);
        int dy = south(light, cell);
        double angle = Math.toDegrees(Math.atan2(dy, dx));
        double border = Math.toDegrees(Math.atan2(1, 2)) + 1e-9;
        for (int straight = 0; straight < 8; straight += 2) {
            double off = Math.abs(Math.IEEEremainder(angle - straight * 45, 360));
            if (off <= border) {
                return straight;
            }
        }
        return Math.floorMod((int) Math.floor(angle / 90), 4) * 2 + 1;
    }

    private static boolean lights(World w, int light, int cell, int hour, int fog) {
        if (distance(light, cell) == 0) {
            return true;
        }
        int[] s = w.settings[light];
        int wind = wind(light, cell);
        return wind == (s[0] + hour * s[1]) % 8 && distance(light, cell) <= s[2] - fog && (s[3] & 1 << wind) == 0;
    }

    private static boolean lit(World w, int cell) {
        for (int i = 0; i < 4; i++) {
            if (lights(w, i, cell, w.hour, w.fog[i])) {
                return true;
            }
        }
        return false;
    }

    private static int nearest(int cell) {
        int best = 0;
        for (int i = 1; i < 4; i++) {
            if (distance(i, cell) < distance(best, cell)) {
                best = i;
            }
        }
        return best;
    }

    private static List<Vessel> going(World w) {
        List<Vessel> list = new ArrayList<>();
        for (Vessel v : w.ships) {
            if (v.how == 0) {
                list.add(v);
            }
        }
        list.sort(Comparator.comparingInt((Vessel v) -> -v.worth).thenComparingInt(v -> v.number));
        return list;
    }

    private static Vessel seaShip(World w, int cell) {
        for (Vessel v : w.ships) {
            if (v.how == 0 && v.cell == cell) {
                return v;
            }
        }
        return null;
    }

    private static void hourOf(World w) {
        for (Vessel v : going(w)) {
            int x = v.cell % 10 + Integer.signum(v.harbour % 10 - v.cell % 10);
            int y = v.cell / 10 + Integer.signum(v.harbour / 10 - v.cell / 10);
            int to = 10 * y + x;
            if (seaShip(w, to) != null) {
                v.waited++;
            } else if (w.rocks.contains(to) && lit(w, to)) {
                v.waited++;
            } else if (w.rocks.contains(to)) {
                v.cell = to;
                v.how = 2;
                w.keepers[nearest(to)][1] += v.worth;
                w.keepers[nearest(to)][3]++;
            } else {
                v.cell = to;
                v.how = to == v.harbour ? 1 : 0;
            }
        }
        for (int[] k : w.keepers) {
            k[0] += w.wage;
            while (k[0] > 0 && k[1] > 0) {
                k[0]--;
                k[1]--;
                k[4]++;
            }
        }
        for (int i = 0; i < 4; i++) {
            w.fog[i] = Math.max(0, w.fog[i] - 1);
        }
        w.hour++;
    }

    private static int wrecks(World w) {
        int n = 0;
        for (Vessel v : w.ships) {
            n += v.how == 2 ? 1 : 0;
        }
        return n;
    }

    private static boolean cell(int cell) {
        return 0 <= cell && cell <= 99;
    }

    private static boolean four(int light) {
        return 0 <= light && light <= 3;
    }

    // The acts on a world, which they leave as it was if there is an error.

    private static int rock(World w, int cell) {
        if (!cell(cell)) {
            return -1;
        }
        if (cell == 22 || cell == 27 || cell == 72 || cell == 77) {
            return -4;
        }
        if (!w.rocks.remove(cell)) {
            w.rocks.add(cell);
        }
        return w.rocks.size();
    }

    private static int ship(World w, int worth, int cell, int harbour) {
        if (!cell(cell) || !cell(harbour)) {
            return -1;
        }
        if (worth < 1 || worth > 99) {
            return -2;
        }
        if (cell == harbour || w.rocks.contains(cell) || w.rocks.contains(harbour) || seaShip(w, cell) != null) {
            return -4;
        }
        if (w.ships.size() == 8) {
            return -3;
        }
        Vessel v = new Vessel();
        v.number = w.ships.size();
        v.worth = worth;
        v.cell = cell;
        v.harbour = harbour;
        w.ships.add(v);
        return v.number;
    }

    private static int pass(World w, int hours) {
        if (hours < 1 || hours > 20) {
            return -2;
        }
        if (w.hour + hours > 9999) {
            return -3;
        }
        int before = wrecks(w);
        for (int i = 0; i < hours; i++) {
            hourOf(w);
        }
        return wrecks(w) - before;
    }

    private static int textCell(String part, int at) {
        return Integer.parseInt(part.substring(at + 1, at + 2) + part.charAt(at));
    }

    private static int doAll(World w, String[] parts) {
        for (String part : parts) {
            int answer = 0;
            switch (part.charAt(0)) {
                case 'r': answer = rock(w, textCell(part, 1)); break;
                case 's':
                    int colon = part.indexOf(':');
                    answer = ship(w, Integer.parseInt(part.substring(1, colon)),
                        textCell(part, colon + 1), textCell(part, colon + 4));
                    break;
                case 'd': w.settings[part.charAt(1) - '0'][3] ^= 1 << part.charAt(2) - '0'; break;
                default: answer = pass(w, Integer.parseInt(part.substring(1)));
            }
            if (answer < 0) {
                return answer;
            }
        }
        return parts.length;
    }

    private interface Act {
        int on(World world);
    }

    private int act(Act act) {
        World before = now.copy();
        int answer = act.on(now);
        if (answer < 0) {
            now = before;
            return answer;
        }
        past.addLast(before);
        if (past.size() > 4) {
            past.removeFirst();
        }
        return answer;
    }

    int rock(int cell) {
        return act(w -> rock(w, cell));
    }

    int light(int light, int what, int value) {
        int[] least = {0, 1, 1, 0};
        int[] most = {7, 3, 9, 255};
        if (!four(light)) {
            return -1;
        }
        if (!four(what) || value < least[what] || value > most[what]) {
            return -2;
        }
        int previous = now.settings[light][what];
        if (previous == value) {
            return -5;
        }
        return act(w -> {
            w.settings[light][what] = value;
            return previous;
        });
    }

    int ship(int worth, int cell, int harbour) {
        return act(w -> ship(w, worth, cell, harbour));
    }

    int doAll() {
        int fault = fault();
        return fault == -5 ? act(w -> doAll(w, text.split(";"))) : -100 - fault;
    }

    int card(int keeper, int light) {
        if (!four(keeper) || !four(light)) {
            return -1;
        }
        if (keeper == light || now.keepers[keeper][2] == 0 || now.fog[light] == 9) {
            return -4;
        }
        return act(w -> {
            w.keepers[keeper][2]--;
            w.fog[light] = Math.min(9, w.fog[light] + 3);
            return w.fog[light];
        });
    }

    int pass(int hours) {
        return act(w -> pass(w, hours));
    }

    int wage(int wage) {
        int previous = now.wage;
        if (wage < 0 || wage > 9) {
            return -2;
        }
        if (wage == previous) {
            return -5;
        }
        return act(w -> {
            w.wage = wage;
            return previous;
        });
    }

    int type(char character) {
        if (text.length() == 60) {
            return -3;
        }
        text += character;
        return text.length();
    }

    int clearText() {
        int length = text.length();
        text = "";
        return length;
    }

    /** The text is right up to a place if what stands there is the beginning of some right text. */
    int fault() {
        for (int end = 1; end <= text.length(); end++) {
            Matcher matcher = TEXT.matcher(text.substring(0, end));
            if (!matcher.matches() && !matcher.hitEnd()) {
                return end - 1;
            }
        }
        return TEXT.matcher(text).matches() ? -5 : text.length();
    }

    int undo() {
        if (past.isEmpty()) {
            return -5;
        }
        now = past.removeLast();
        return past.size();
    }

    int keep() {
        kept = now.copy();
        return now.hour;
    }

    int restore() {
        if (kept == null) {
            return -5;
        }
        act(w -> 0);
        now = kept.copy();
        return now.hour;
    }

    int cellOf(int cell, int what) {
        if (!cell(cell)) {
            return -1;
        }
        switch (what) {
            case 0: return now.rocks.contains(cell) ? 1 : 0;
            case 1:
                Vessel v = seaShip(now, cell);
                return v == null ? -5 : v.number;
            case 2:
                int set = 0;
                for (int i = 0; i < 4; i++) {
                    set += lights(now, i, cell, now.hour, now.fog[i]) ? 1 << i : 0;
                }
                return set;
            case 3: return nearest(cell);
            default: return -2;
        }
    }

    int lightOf(int light, int what) {
        if (!four(light)) {
            return -1;
        }
        int[] s = now.settings[light];
        if (what == 6) {
            int n = 0;
            for (int cell = 0; cell < 100; cell++) {
                n += lights(now, light, cell, now.hour, now.fog[light]) ? 1 : 0;
            }
            return n;
        }
        return four(what) ? s[what] : what == 4 ? now.fog[light] : what == 5 ? (s[0] + now.hour * s[1]) % 8 : -2;
    }

    int keeperOf(int keeper, int what) {
        return !four(keeper) ? -1 : what < 0 || what > 4 ? -2 : now.keepers[keeper][what];
    }

    int shipOf(int ship, int what) {
        if (ship < 0 || ship >= now.ships.size()) {
            return -1;
        }
        Vessel v = now.ships.get(ship);
        switch (what) {
            case 0: return v.worth;
            case 1: return v.cell;
            case 2: return v.harbour;
            case 3: return v.how;
            case 4: return v.waited;
            case 5:
                return Math.max(Math.abs(v.cell % 10 - v.harbour % 10), Math.abs(v.cell / 10 - v.harbour / 10));
            case 6: return v.how == 0 ? going(now).indexOf(v) : -5;
            default: return -2;
        }
    }

    int isLit(int light, int cell, int hour, int way) {
        if (!four(light) || !cell(cell)) {
            return -1;
        }
        if (hour < 0 || hour > 20000 || way < 0 || way > 1) {
            return -2;
        }
        return lights(now, light, cell, hour, now.fog[light]) ? 1 : 0;
    }

    int why(int light, int cell) {
        if (!four(light) || !cell(cell)) {
            return -1;
        }
        int[] s = now.settings[light];
        if (lights(now, light, cell, now.hour, now.fog[light])) {
            return 0;
        }
        if ((s[3] >> wind(light, cell)) % 2 == 1) {
            return 1;
        }
        return distance(light, cell) > s[2] ? 2 : distance(light, cell) > s[2] - now.fog[light] ? 3 : 4;
    }

    int count(int what) {
        int[] how = new int[3];
        int home = 0;
        for (Vessel v : now.ships) {
            how[v.how]++;
            home += v.how == 1 ? v.worth : 0;
        }
        int rocks = 0;
        int cells = 0;
        for (int cell = 0; cell < 100; cell++) {
            if (lit(now, cell)) {
                cells++;
                rocks += now.rocks.contains(cell) ? 1 : 0;
            }
        }
        int debts = 0;
        int paid = 0;
        for (int[] k : now.keepers) {
            debts += k[1];
            paid += k[4];
        }
        int[] counts = {now.hour, now.rocks.size(), now.ships.size(), how[0], how[1], how[2], rocks, cells,
            debts, paid, home, past.size(), text.length(), now.wage};
        return what < 0 || what >= counts.length ? -2 : counts[what];
    }

    float share(int cell) {
        if (!cell(cell)) {
            return -1.0f;
        }
        World w = now.copy();
        float hours = 0;
        for (int i = 0; i < 8; i++) {
            hours += lit(w, cell) ? 1 : 0;
            w.hour++;
        }
        return hours / 8;
    }

    int litIn(int cell) {
        if (!cell(cell)) {
            return -1;
        }
        World w = now.copy();
        for (int hours = 0; hours <= 40; hours++) {
            if (lit(w, cell)) {
                return hours;
            }
            hourOf(w);
        }
        return -5;
    }

    private static int[] wreckedIn(World w, int hours) {
        World later = w.copy();
        for (int i = 0; i < hours; i++) {
            hourOf(later);
        }
        int[] setAndWorth = new int[2];
        for (int i = 0; i < w.ships.size(); i++) {
            if (w.ships.get(i).how != later.ships.get(i).how && later.ships.get(i).how == 2) {
                setAndWorth[0] += 1 << i;
                setAndWorth[1] += w.ships.get(i).worth;
            }
        }
        return setAndWorth;
    }

    int ifPassed(int hours) {
        return hours < 1 || hours > 40 ? -2 : wreckedIn(now, hours)[0];
    }

    int bestCard(int keeper) {
        if (!four(keeper)) {
            return -1;
        }
        int best = -5;
        int most = wreckedIn(now, 10)[1];
        for (int light = 0; light < 4 && now.keepers[keeper][2] > 0; light++) {
            if (light != keeper) {
                World w = now.copy();
                w.fog[light] = Math.min(9, w.fog[light] + 3);
                int worth = wreckedIn(w, 10)[1];
                if (worth > most) {
                    most = worth;
                    best = light;
                }
            }
        }
        return best;
    }
}
