/**
 * A game of lighthouse keepers: beams that turn by the hour, fog, ships, rocks and wrecks.
 * README.md tells how it is used.
 *
 * <p>All rows are made when the object is made and used again by every call, since all calls of
 * a run share one room: no call makes an object.
 */
public final class BeamKeepers {
    public static final int UNKNOWN = -1;
    public static final int BAD_VALUE = -2;
    public static final int FULL = -3;
    public static final int NOT_POSSIBLE = -4;
    public static final int NONE = -5;

    private static final int FINE = 0;

    private static final int SIDE = 10;
    private static final int CELLS = 100;
    private static final int WINDS = 8;
    private static final int NO_WIND = -1;
    private static final int[] LIGHT_CELLS = {22, 27, 72, 77};
    private static final int LIGHTS = 4;

    // What can be set of a light, by the number of the setting: start, pace, range, dark winds.
    private static final int[] LEAST_SETTING = {0, 1, 1, 0};
    private static final int[] MOST_SETTING = {7, 3, 9, 255};

    private static final int MOST_FOG = 9;
    private static final int FOG_OF_A_CARD = 3;
    private static final int MOST_WAGE = 9;

    private static final int MOST_SHIPS = 8;
    private static final int MOST_WORTH = 99;
    private static final int NOT_COME = -1;
    private static final int AT_SEA = 0;
    private static final int HOME = 1;
    private static final int WRECKED = 2;

    private static final int MOST_HOURS_PASSED = 20;
    private static final int LAST_HOUR = 9999;
    private static final int LAST_HOUR_TOLD = 20000;
    private static final int HOURS_OF_SHARE = 8;
    private static final int MOST_HOURS_UNTIL_LIT = 40;
    private static final int MOST_HOURS_FORESEEN = 40;
    private static final int HOURS_OF_BEST_CARD = 10;

    private static final int MOST_CHARACTERS = 60;
    // The shortest part and its ';' take three characters.
    private static final int MOST_PARTS = 20;
    private static final int FIRST_FAULT = -100;
    // What stands behind the last character; no part allows it anywhere.
    private static final char END = 0;

    private static final int MOST_STATES = 4;

    private final Bearings bearings = new Bearings();
    private final State state = new State(bearings);
    private final State trial = new State(bearings);
    private final State snapshot = new State(bearings);
    private boolean hasSnapshot = false;
    private final History history = new History(bearings);
    private final Text text = new Text();

    public BeamKeepers() {
    }

    // ---- chart, lights

    public int rock(int cell) {
        int error = state.rockError(cell);
        if (error != FINE) {
            return error;
        }
        history.record(state);
        state.turnRock(cell);
        return state.rocks();
    }

    public int light(int light, int what, int value) {
        if (!isLight(light)) {
            return UNKNOWN;
        }
        if (!isSetting(what, value)) {
            return BAD_VALUE;
        }
        int previous = state.lights[light].told(what, state.hour);
        if (previous == value) {
            return NONE;
        }
        history.record(state);
        state.lights[light].set(what, value);
        return previous;
    }

    public int ship(int worth, int cell, int harbour) {
        int error = state.shipError(worth, cell, harbour);
        if (error != FINE) {
            return error;
        }
        history.record(state);
        return state.addShip(worth, cell, harbour);
    }

    public int doAll() {
        int fault = text.read();
        if (fault != NONE) {
            return FIRST_FAULT - fault;
        }
        trial.copyFrom(state);
        int parts = Math.min(text.partCount, MOST_PARTS);
        for (int i = 0; i < parts; i++) {
            int error = trial.doPart(text.parts[i]);
            if (error != FINE) {
                return error;
            }
        }
        history.record(state);
        state.copyFrom(trial);
        return parts;
    }

    // ---- keepers, hours

    public int card(int keeper, int light) {
        if (!isLight(keeper) || !isLight(light)) {
            return UNKNOWN;
        }
        if (!state.canLayCard(keeper, light)) {
            return NOT_POSSIBLE;
        }
        history.record(state);
        state.keepers[keeper].cards--;
        state.lights[light].layCard();
        return state.lights[light].fog;
    }

    public int pass(int hours) {
        int error = state.passError(hours);
        if (error != FINE) {
            return error;
        }
        history.record(state);
        return state.passHours(hours);
    }

    public int wage(int wage) {
        if (wage < 0 || wage > MOST_WAGE) {
            return BAD_VALUE;
        }
        int previous = state.wage;
        if (previous == wage) {
            return NONE;
        }
        history.record(state);
        state.wage = wage;
        return previous;
    }

    // ---- texts

    public int type(char character) {
        return text.append(character);
    }

    public int clearText() {
        int previous = text.length;
        text.length = 0;
        return previous;
    }

    public int fault() {
        return text.read();
    }

    // ---- history

    public int undo() {
        return history.takeBack(state);
    }

    public int keep() {
        snapshot.copyFrom(state);
        hasSnapshot = true;
        return state.hour;
    }

    public int restore() {
        if (!hasSnapshot) {
            return NONE;
        }
        history.record(state);
        state.copyFrom(snapshot);
        return state.hour;
    }

    // ---- what is told

    public int cellOf(int cell, int what) {
        if (!isCell(cell)) {
            return UNKNOWN;
        }
        switch (what) {
            case 0: return state.hasRock(cell) ? 1 : 0;
            case 1: return state.shipAtSeaIn(cell);
            case 2: return state.litBy(cell, state.hour, 0);
            case 3: return bearings.nearest[cell];
            default: return BAD_VALUE;
        }
    }

    public int lightOf(int light, int what) {
        if (!isLight(light)) {
            return UNKNOWN;
        }
        return state.lights[light].told(what, state.hour);
    }

    public int keeperOf(int keeper, int what) {
        if (!isLight(keeper)) {
            return UNKNOWN;
        }
        return state.keepers[keeper].told(what);
    }

    public int shipOf(int ship, int what) {
        if (!isShip(ship) || ship >= state.shipCount) {
            return UNKNOWN;
        }
        if (what == 6) {
            return state.placeOf(ship);
        }
        return state.ships[ship].told(what);
    }

    public int isLit(int light, int cell, int hour, int way) {
        if (!isLight(light) || !isCell(cell)) {
            return UNKNOWN;
        }
        if (hour < 0 || hour > LAST_HOUR_TOLD || way < 0 || way > 1) {
            return BAD_VALUE;
        }
        Light asked = state.lights[light];
        boolean lit = way == 0 ? asked.lightsCell(cell, hour, 0) : asked.meetsOnWalk(cell, hour);
        return lit ? 1 : 0;
    }

    public int why(int light, int cell) {
        if (!isLight(light) || !isCell(cell)) {
            return UNKNOWN;
        }
        return state.lights[light].whyDark(cell, state.hour);
    }

    public int count(int what) {
        switch (what) {
            case 0: return state.hour;
            case 1: return state.rocks();
            case 2: return state.shipCount;
            case 3: return state.shipsThatAre(AT_SEA);
            case 4: return state.shipsThatAre(HOME);
            case 5: return state.shipsThatAre(WRECKED);
            case 6: return state.litCells(true);
            case 7: return state.litCells(false);
            case 8: return state.debts();
            case 9: return state.paid();
            case 10: return state.worthHome();
            case 11: return history.size;
            case 12: return text.length;
            case 13: return state.wage;
            default: return BAD_VALUE;
        }
    }

    public float share(int cell) {
        if (!isCell(cell)) {
            return -1.0f;
        }
        int lit = 0;
        for (int ahead = 0; ahead < HOURS_OF_SHARE; ahead++) {
            if (state.litBy(cell, state.hour + ahead, 0) != 0) {
                lit++;
            }
        }
        return (float) lit / (float) HOURS_OF_SHARE;
    }

    // ---- what would be

    public int litIn(int cell) {
        if (!isCell(cell)) {
            return UNKNOWN;
        }
        for (int ahead = 0; ahead <= MOST_HOURS_UNTIL_LIT; ahead++) {
            if (state.litBy(cell, state.hour + ahead, ahead) != 0) {
                return ahead;
            }
        }
        return NONE;
    }

    public int ifPassed(int hours) {
        if (hours < 1 || hours > MOST_HOURS_FORESEEN) {
            return BAD_VALUE;
        }
        trial.copyFrom(state);
        trial.passHours(hours);
        int set = 0;
        for (int i = 0; i < MOST_SHIPS; i++) {
            if (isWreckedInTrial(i)) {
                set |= 1 << i;
            }
        }
        return set;
    }

    public int bestCard(int keeper) {
        if (!isLight(keeper)) {
            return UNKNOWN;
        }
        int best = NONE;
        trial.copyFrom(state);
        int most = worthWreckedInTrial();
        for (int light = 0; light < LIGHTS; light++) {
            if (!state.canLayCard(keeper, light)) {
                continue;
            }
            trial.copyFrom(state);
            trial.lights[light].layCard();
            int worth = worthWreckedInTrial();
            if (worth > most) {
                most = worth;
                best = light;
            }
        }
        return best;
    }

    private int worthWreckedInTrial() {
        trial.passHours(HOURS_OF_BEST_CARD);
        int worth = 0;
        for (int i = 0; i < MOST_SHIPS; i++) {
            if (isWreckedInTrial(i)) {
                worth += state.ships[i].worth;
            }
        }
        return worth;
    }

    private boolean isWreckedInTrial(int ship) {
        return state.ships[ship].condition == AT_SEA && trial.ships[ship].condition == WRECKED;
    }

    private static boolean isCell(int cell) {
        return cell >= 0 && cell < CELLS;
    }

    private static boolean isLight(int light) {
        return light >= 0 && light < LIGHTS;
    }

    private static boolean isShip(int ship) {
        return ship >= 0 && ship < MOST_SHIPS;
    }

    private static boolean isSetting(int what, int value) {
        return what >= 0 && what < MOST_SETTING.length
            && value >= LEAST_SETTING[what] && value <= MOST_SETTING[what];
    }

    private static int distanceBetween(int cell, int other) {
        int east = Math.abs(other % SIDE - cell % SIDE);
        int south = Math.abs(other / SIDE - cell / SIDE);
        return Math.max(east, south);
    }

    /** How the cells lie from the lights. It never changes, so that all states share it. */
    private static final class Bearings {
        final int[][] winds = new int[LIGHTS][CELLS];
        final int[][] distances = new int[LIGHTS][CELLS];
        final int[] nearest = new int[CELLS];

        Bearings() {
            for (int cell = 0; cell < CELLS; cell++) {
                int least = SIDE;
                for (int light = 0; light < LIGHTS; light++) {
                    int from = LIGHT_CELLS[light];
                    int distance = distanceBetween(from, cell);
                    winds[light][cell] = windOf(cell % SIDE - from % SIDE, cell / SIDE - from / SIDE);
                    distances[light][cell] = distance;
                    if (distance < least) {
                        least = distance;
                        nearest[cell] = light;
                    }
                }
            }
        }

        private static int windOf(int east, int south) {
            int wide = Math.abs(east);
            int high = Math.abs(south);
            if (wide == 0 && high == 0) {
                return NO_WIND;
            }
            if (2 * high <= wide) {
                return east > 0 ? 0 : 4;
            }
            if (2 * wide <= high) {
                return south > 0 ? 2 : 6;
            }
            if (south > 0) {
                return east > 0 ? 1 : 3;
            }
            return east > 0 ? 7 : 5;
        }
    }

    private static final class Light {
        final int ownCell;
        final int[] winds;
        final int[] distances;
        int start;
        int pace = 1;
        int range = 5;
        int dark = 0;
        int fog = 0;

        Light(int number, Bearings bearings) {
            ownCell = LIGHT_CELLS[number];
            winds = bearings.winds[number];
            distances = bearings.distances[number];
            start = number;
        }

        void copyFrom(Light other) {
            start = other.start;
            pace = other.pace;
            range = other.range;
            dark = other.dark;
            fog = other.fog;
        }

        int told(int what, int hour) {
            switch (what) {
                case 0: return start;
                case 1: return pace;
                case 2: return range;
                case 3: return dark;
                case 4: return fog;
                case 5: return beamWind(hour);
                case 6: return litCells(hour);
                default: return BAD_VALUE;
            }
        }

        void set(int what, int value) {
            switch (what) {
                case 0: start = value; break;
                case 1: pace = value; break;
                case 2: range = value; break;
                default: dark = value; break;
            }
        }

        void turnDark(int wind) {
            dark ^= 1 << wind;
        }

        void layCard() {
            fog = Math.min(fog + FOG_OF_A_CARD, MOST_FOG);
        }

        void thinFog() {
            if (fog > 0) {
                fog--;
            }
        }

        int beamWind(int hour) {
            return (start + hour * pace) % WINDS;
        }

        private boolean isDark(int wind) {
            return (dark >> wind & 1) != 0;
        }

        private int reach(int thinned) {
            return fog > thinned ? range - (fog - thinned) : range;
        }

        boolean lightsCell(int cell, int hour, int thinned) {
            if (cell == ownCell) {
                return true;
            }
            if (!isCell(cell)) {
                return false;
            }
            int wind = winds[cell];
            return wind == beamWind(hour) && distances[cell] <= reach(thinned) && !isDark(wind);
        }

        // Told without the rows of bearings, so that the two ways can be held against each other.
        boolean meetsOnWalk(int cell, int hour) {
            if (cell == ownCell) {
                return true;
            }
            int wind = beamWind(hour);
            if (isDark(wind)) {
                return false;
            }
            int reach = reach(0);
            for (int ring = 1; ring <= reach; ring++) {
                int middle = wind * ring;
                int half = wind % 2 == 0 ? ring / 2 : (ring - 1) / 2;
                for (int step = middle - half; step <= middle + half; step++) {
                    if (cellOnRing(ring, step) == cell) {
                        return true;
                    }
                }
            }
            return false;
        }

        // Steps go clockwise from the east; a ring has 8 * ring of them, 2 * ring a quarter.
        private int cellOnRing(int ring, int step) {
            int x = ownCell % SIDE + eastOnRing(ring, step);
            int y = ownCell / SIDE + eastOnRing(ring, step - 2 * ring);
            if (x < 0 || x >= SIDE || y < 0 || y >= SIDE) {
                return NONE;
            }
            return SIDE * y + x;
        }

        private static int eastOnRing(int ring, int step) {
            if (ring < 1) {
                return 0;
            }
            int fromWest = Math.abs(Math.floorMod(step, 8 * ring) - 4 * ring);
            return Math.max(-ring, Math.min(ring, fromWest - 2 * ring));
        }

        private int litCells(int hour) {
            int lit = 0;
            for (int cell = 0; cell < CELLS; cell++) {
                if (lightsCell(cell, hour, 0)) {
                    lit++;
                }
            }
            return lit;
        }

        int whyDark(int cell, int hour) {
            if (cell == ownCell || !isCell(cell)) {
                return 0;
            }
            int wind = winds[cell];
            int distance = distances[cell];
            if (isDark(wind)) {
                return 1;
            }
            if (distance > range) {
                return 2;
            }
            if (distance > reach(0)) {
                return 3;
            }
            return wind == beamWind(hour) ? 0 : 4;
        }
    }

    private static final class Keeper {
        int coins = 0;
        int debt = 0;
        int cards = 3;
        int wrecks = 0;
        int paid = 0;

        void copyFrom(Keeper other) {
            coins = other.coins;
            debt = other.debt;
            cards = other.cards;
            wrecks = other.wrecks;
            paid = other.paid;
        }

        int told(int what) {
            switch (what) {
                case 0: return coins;
                case 1: return debt;
                case 2: return cards;
                case 3: return wrecks;
                case 4: return paid;
                default: return BAD_VALUE;
            }
        }

        void oweWreck(int worth) {
            debt += worth;
            wrecks++;
        }

        void earn(int wage) {
            coins += wage;
            int payment = Math.min(coins, debt);
            coins -= payment;
            debt -= payment;
            paid += payment;
        }
    }

    private static final class Ship {
        int worth = 0;
        int cell = 0;
        int harbour = 0;
        int condition = NOT_COME;
        int waited = 0;
        // Whether its turn in the hour that passes is over.
        boolean hasGone = false;

        void copyFrom(Ship other) {
            worth = other.worth;
            cell = other.cell;
            harbour = other.harbour;
            condition = other.condition;
            waited = other.waited;
        }

        void begin(int newWorth, int newCell, int newHarbour) {
            worth = newWorth;
            cell = newCell;
            harbour = newHarbour;
            condition = AT_SEA;
            waited = 0;
        }

        int told(int what) {
            switch (what) {
                case 0: return worth;
                case 1: return cell;
                case 2: return harbour;
                case 3: return condition;
                case 4: return waited;
                case 5: return distanceBetween(cell, harbour);
                default: return BAD_VALUE;
            }
        }

        boolean isAtSeaIn(int place) {
            return condition == AT_SEA && cell == place;
        }

        int nextCell() {
            int east = Integer.compare(harbour % SIDE, cell % SIDE);
            int south = Integer.compare(harbour / SIDE, cell / SIDE);
            return cell + east + SIDE * south;
        }

        void comeTo(int next) {
            cell = next;
            if (cell == harbour) {
                condition = HOME;
            }
        }

        void breakIn(int next) {
            cell = next;
            condition = WRECKED;
        }
    }

    /** Everything that undo and the snapshot bring back. */
    private static final class State {
        final Bearings bearings;
        // A set of bits for each y, by x, so that a copy is short.
        final int[] rockRows = new int[SIDE];
        final Light[] lights = new Light[LIGHTS];
        final Keeper[] keepers = new Keeper[LIGHTS];
        final Ship[] ships = new Ship[MOST_SHIPS];
        int shipCount = 0;
        int wage = 2;
        int hour = 0;

        State(Bearings bearings) {
            this.bearings = bearings;
            for (int i = 0; i < LIGHTS; i++) {
                lights[i] = new Light(i, bearings);
                keepers[i] = new Keeper();
            }
            for (int i = 0; i < MOST_SHIPS; i++) {
                ships[i] = new Ship();
            }
        }

        void copyFrom(State other) {
            System.arraycopy(other.rockRows, 0, rockRows, 0, SIDE);
            for (int i = 0; i < LIGHTS; i++) {
                lights[i].copyFrom(other.lights[i]);
                keepers[i].copyFrom(other.keepers[i]);
            }
            for (int i = 0; i < MOST_SHIPS; i++) {
                ships[i].copyFrom(other.ships[i]);
            }
            shipCount = other.shipCount;
            wage = other.wage;
            hour = other.hour;
        }

        boolean hasRock(int cell) {
            return isCell(cell) && (rockRows[cell / SIDE] >> cell % SIDE & 1) != 0;
        }

        int rocks() {
            int rocks = 0;
            for (int row : rockRows) {
                rocks += Integer.bitCount(row);
            }
            return rocks;
        }

        int rockError(int cell) {
            if (!isCell(cell)) {
                return UNKNOWN;
            }
            for (int lightCell : LIGHT_CELLS) {
                if (cell == lightCell) {
                    return NOT_POSSIBLE;
                }
            }
            return FINE;
        }

        void turnRock(int cell) {
            if (isCell(cell)) {
                rockRows[cell / SIDE] ^= 1 << cell % SIDE;
            }
        }

        int shipError(int worth, int cell, int harbour) {
            if (!isCell(cell) || !isCell(harbour)) {
                return UNKNOWN;
            }
            if (worth < 1 || worth > MOST_WORTH) {
                return BAD_VALUE;
            }
            if (cell == harbour || hasRock(cell) || hasRock(harbour) || shipAtSeaIn(cell) != NONE) {
                return NOT_POSSIBLE;
            }
            return shipCount < MOST_SHIPS ? FINE : FULL;
        }

        int addShip(int worth, int cell, int harbour) {
            int number = shipCount;
            if (!isShip(number)) {
                return FULL;
            }
            ships[number].begin(worth, cell, harbour);
            shipCount++;
            return number;
        }

        int shipAtSeaIn(int cell) {
            for (int i = 0; i < MOST_SHIPS; i++) {
                if (ships[i].isAtSeaIn(cell)) {
                    return i;
                }
            }
            return NONE;
        }

        int shipsThatAre(int condition) {
            int found = 0;
            for (Ship ship : ships) {
                if (ship.condition == condition) {
                    found++;
                }
            }
            return found;
        }

        int worthHome() {
            int worth = 0;
            for (Ship ship : ships) {
                if (ship.condition == HOME) {
                    worth += ship.worth;
                }
            }
            return worth;
        }

        int placeOf(int ship) {
            if (!isShip(ship) || ships[ship].condition != AT_SEA) {
                return NONE;
            }
            int worth = ships[ship].worth;
            int ahead = 0;
            for (int i = 0; i < MOST_SHIPS; i++) {
                boolean goesFirst = ships[i].worth > worth || ships[i].worth == worth && i < ship;
                if (ships[i].condition == AT_SEA && goesFirst) {
                    ahead++;
                }
            }
            return ahead;
        }

        boolean canLayCard(int keeper, int light) {
            return keeper != light && keepers[keeper].cards > 0 && lights[light].fog < MOST_FOG;
        }

        int debts() {
            int sum = 0;
            for (Keeper keeper : keepers) {
                sum += keeper.debt;
            }
            return sum;
        }

        int paid() {
            int sum = 0;
            for (Keeper keeper : keepers) {
                sum += keeper.paid;
            }
            return sum;
        }

        int litBy(int cell, int inHour, int thinned) {
            int set = 0;
            for (int i = 0; i < LIGHTS; i++) {
                if (lights[i].lightsCell(cell, inHour, thinned)) {
                    set |= 1 << i;
                }
            }
            return set;
        }

        int litCells(boolean withRock) {
            int lit = 0;
            for (int cell = 0; cell < CELLS; cell++) {
                if ((!withRock || hasRock(cell)) && litBy(cell, hour, 0) != 0) {
                    lit++;
                }
            }
            return lit;
        }

        int passError(int hours) {
            if (hours < 1 || hours > MOST_HOURS_PASSED) {
                return BAD_VALUE;
            }
            return hour + hours > LAST_HOUR ? FULL : FINE;
        }

        int passHours(int hours) {
            int wrecks = 0;
            for (int passed = 0; passed < hours; passed++) {
                for (Ship ship : ships) {
                    ship.hasGone = false;
                }
                for (int turn = 0; turn < MOST_SHIPS; turn++) {
                    if (goesToWreck(nextToGo())) {
                        wrecks++;
                    }
                }
                for (Keeper keeper : keepers) {
                    keeper.earn(wage);
                }
                for (Light light : lights) {
                    light.thinFog();
                }
                hour++;
            }
            return wrecks;
        }

        // Of the ships at sea that have not gone in this hour; null without one.
        private Ship nextToGo() {
            Ship first = null;
            for (Ship ship : ships) {
                boolean mayGo = ship.condition == AT_SEA && !ship.hasGone;
                if (mayGo && (first == null || ship.worth > first.worth)) {
                    first = ship;
                }
            }
            return first;
        }

        private boolean goesToWreck(Ship ship) {
            if (ship == null) {
                return false;
            }
            ship.hasGone = true;
            int next = ship.nextCell();
            boolean rockAhead = hasRock(next);
            if (shipAtSeaIn(next) != NONE || rockAhead && litBy(next, hour, 0) != 0) {
                ship.waited++;
                return false;
            }
            if (rockAhead) {
                ship.breakIn(next);
                oweWreck(next, ship.worth);
                return true;
            }
            ship.comeTo(next);
            return false;
        }

        private void oweWreck(int cell, int worth) {
            int keeper = isCell(cell) ? bearings.nearest[cell] : NONE;
            if (isLight(keeper)) {
                keepers[keeper].oweWreck(worth);
            }
        }

        int doPart(Part part) {
            int error = FINE;
            if (part.kind == 'r') {
                error = rockError(part.cell);
                if (error == FINE) {
                    turnRock(part.cell);
                }
            } else if (part.kind == 's') {
                error = shipError(part.number, part.cell, part.harbour);
                if (error == FINE) {
                    addShip(part.number, part.cell, part.harbour);
                }
            } else if (part.kind == 'd' && isLight(part.number)) {
                lights[part.number].turnDark(part.wind);
            } else if (part.kind == 'h') {
                error = passError(part.number);
                if (error == FINE) {
                    passHours(part.number);
                }
            }
            return error;
        }
    }

    private static final class History {
        final State[] states = new State[MOST_STATES];
        int size = 0;

        History(Bearings bearings) {
            for (int i = 0; i < MOST_STATES; i++) {
                states[i] = new State(bearings);
            }
        }

        void record(State state) {
            if (size >= MOST_STATES) {
                dropOldest();
            }
            states[size].copyFrom(state);
            size++;
        }

        private void dropOldest() {
            State oldest = states[0];
            for (int i = 1; i < MOST_STATES; i++) {
                states[i - 1] = states[i];
            }
            states[MOST_STATES - 1] = oldest;
            size = MOST_STATES - 1;
        }

        int takeBack(State state) {
            if (size < 1 || size > MOST_STATES) {
                return NONE;
            }
            size--;
            state.copyFrom(states[size]);
            return size;
        }
    }

    /** One part of a text; its number is the worth, the light or the hours. */
    private static final class Part {
        char kind = ' ';
        int number = 0;
        int cell = 0;
        int harbour = 0;
        int wind = 0;
    }

    /** The text, and the parts that were found in it when it was last read. */
    private static final class Text {
        final char[] characters = new char[MOST_CHARACTERS];
        int length = 0;
        final Part[] parts = new Part[MOST_PARTS];
        int partCount = 0;
        private int place = 0;

        Text() {
            for (int i = 0; i < MOST_PARTS; i++) {
                parts[i] = new Part();
            }
        }

        int append(char character) {
            if (length >= MOST_CHARACTERS) {
                return FULL;
            }
            characters[length] = character;
            length++;
            return length;
        }

        /** Returns the fault of the text, or NONE. */
        int read() {
            place = 0;
            partCount = 0;
            for (int i = 0; i < MOST_PARTS; i++) {
                if (!readPart(parts[i])) {
                    return place;
                }
                partCount++;
                if (place == length) {
                    return NONE;
                }
                if (!readSign(';')) {
                    return place;
                }
            }
            return place;
        }

        private boolean readPart(Part part) {
            part.kind = signAhead();
            if (readSign('r')) {
                part.cell = readCell();
                return part.cell >= 0;
            }
            if (readSign('s')) {
                return readShip(part);
            }
            if (readSign('d')) {
                part.number = readDigit(0, LIGHTS - 1);
                part.wind = part.number < 0 ? NONE : readDigit(0, WINDS - 1);
                return part.wind >= 0;
            }
            if (readSign('h')) {
                part.number = readNumber(MOST_HOURS_PASSED);
                return part.number >= 0;
            }
            return false;
        }

        private boolean readShip(Part part) {
            part.number = readNumber(MOST_WORTH);
            if (part.number < 0 || !readSign(':')) {
                return false;
            }
            part.cell = readCell();
            if (part.cell < 0 || !readSign('>')) {
                return false;
            }
            part.harbour = readCell();
            return part.harbour >= 0;
        }

        private char signAhead() {
            return place < length && place < MOST_CHARACTERS ? characters[place] : END;
        }

        private boolean readSign(char sign) {
            if (signAhead() == sign) {
                place++;
                return true;
            }
            return false;
        }

        private int readCell() {
            int x = readDigit(0, SIDE - 1);
            int y = x < 0 ? NONE : readDigit(0, SIDE - 1);
            return y < 0 ? NONE : SIDE * y + x;
        }

        /** Reads a number from 1 to most, which has two digits. */
        private int readNumber(int most) {
            int first = readDigit(1, 9);
            if (first < 0) {
                return NONE;
            }
            int second = readDigit(0, Math.min(9, most - 10 * first));
            return second < 0 ? first : 10 * first + second;
        }

        private int readDigit(int least, int most) {
            int digit = signAhead() - '0';
            if (digit < least || digit > most) {
                return NONE;
            }
            place++;
            return digit;
        }
    }
}
