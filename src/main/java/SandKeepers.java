/** Houses whose lives run in hourglasses that neighbours keep. ../shared/DOC.md tells what each call promises. */
public final class SandKeepers {
    public static final int UNKNOWN = -1, OUTSIDE = -2, STATE = -3, FULL = -4, NONE = -9;
    public static final long LOST = Long.MIN_VALUE;

    private static final int NO_FAULT = 0, NULL = 1, CAST = 2, INDEX = 3, SIZE = 4;
    private static final int FAULT_BASE = -10, WRONG_BASE = -100;
    private static final int TAKEN = -1;
    private static final int PLAIN = 0, WIDE = 1, CRACKED = 2, KINDS = 3;
    private static final int LEAST_HOUSES = 2, MOST_HOUSES = 6, MOST_NECK = 9, MOST_HEAT = 3;
    private static final int LONGEST_LIFE = 99, MOST_YEARS = 99, MOST_SAND = 99, LAST_YEAR = 999;
    private static final int SHEETS = 4, LANES = 3, MOST_CELLS = 60;
    private static final int MOST_PAIRS = 20, MOST_FOUND = 40, MOST_READINGS = 8;
    private static final int LAY = 0, RAISE = 1, TURN = 2, YEARS = 9, MOST_ACT_YEARS = 9;
    private static final int TEXT_HEAD = 2, TEXT_PER_HOUSE = 7;
    private static final int PLAIN_BODY = 1, WIDE_BODY = 2, CRACKED_BODY = 3, LENT_BODY = 4, OWN_BODY = 5;

    private final Town town;
    private final Town draft;
    private final Tale tale;
    private final Seating seating;
    private final Readings readings;
    private final Sheet[] sheets;
    private int lastTrace;
    private int lastFault;

    public SandKeepers() {
        town = new Town();
        draft = new Town();
        tale = new Tale();
        seating = new Seating();
        readings = new Readings();
        sheets = new Sheet[SHEETS];
        for (int k = 0; k < SHEETS; k++) {
            sheets[k] = new Sheet();
        }
    }

    // ---- 1 the see

    public int see(int sheet, int lane, int i, int n) {
        lastFault = NO_FAULT;
        if (!isWithin(sheet, SHEETS)) {
            return UNKNOWN;
        }
        if (!isWithin(lane, LANES)) {
            return OUTSIDE;
        }
        Sheet row = sheets[sheet];
        int met = row.faultOfCells(lane, i, n);
        if (met != NO_FAULT) {
            return failBy(met);
        }
        int place = draft.readText(row, i, n);
        if (place != TAKEN) {
            return WRONG_BASE - place;
        }
        town.becomeLike(draft);
        readings.count = 0;
        return town.houses;
    }

    public int ofGlass(int k, int what) {
        if (!town.has(k)) {
            return UNKNOWN;
        }
        switch (what) {
            case 0: return town.kind[k];
            case 1: return town.sand[k];
            case 2: return town.neck[k];
            case 3: return town.heat[k];
            case 4: return town.keeper[k];
            case 5: return town.rateKeptBy(k, town.keeper[k]);
            case 6: return town.laid[k] ? 1 : 0;
            case 7: return town.full[k];
            default: return OUTSIDE;
        }
    }

    public int keeps(int house) {
        return town.has(house) ? town.setKeptBy(house) : UNKNOWN;
    }

    public int chafe(int k, int v) {
        if (!town.has(k)) {
            return UNKNOWN;
        }
        if (!isWithin(v, MOST_NECK + 1)) {
            return OUTSIDE;
        }
        int was = town.neck[k];
        town.neck[k] = v;
        return was;
    }

    public int warm(int house, int v) {
        if (!town.has(house)) {
            return UNKNOWN;
        }
        if (!isWithin(v, MOST_HEAT + 1)) {
            return OUTSIDE;
        }
        int was = town.heat[house];
        town.heat[house] = v;
        return was;
    }

    public int give(int k, int house) {
        if (!town.has(k) || !town.has(house)) {
            return UNKNOWN;
        }
        int was = town.keeper[k];
        town.keeper[k] = house;
        return was;
    }

    public int alive(int what) {
        if (town.houses == 0) {
            return STATE;
        }
        if (!isWithin(what, 2)) {
            return OUTSIDE;
        }
        return what == 0 ? town.setOfLiving() : town.setOfStiff();
    }

    // ---- 2 acts, years

    public int lay(int k) {
        return actNow(k, LAY);
    }

    public int raise(int k) {
        return actNow(k, RAISE);
    }

    public int turn(int k) {
        return actNow(k, TURN);
    }

    public int go(int n) {
        if (town.houses == 0) {
            return STATE;
        }
        if (n < 1 || n > MOST_YEARS) {
            return OUTSIDE;
        }
        if (town.year + n > LAST_YEAR) {
            return STATE;
        }
        int before = Integer.bitCount(town.setOfLiving());
        for (int passed = 0; passed < n; passed++) {
            town.passYear();
        }
        return before - Integer.bitCount(town.setOfLiving());
    }

    public int life(int k) {
        return town.has(k) ? town.lifeOf(k) : UNKNOWN;
    }

    public int chronicle(int sheet, int lane, int i, int n, int what) {
        lastFault = NO_FAULT;
        if (!isWithin(sheet, SHEETS)) {
            return UNKNOWN;
        }
        if (!isWithin(lane, LANES) || !isWithin(n, MOST_PAIRS + 1) || !isAskedOfChronicle(what)) {
            return OUTSIDE;
        }
        if (town.houses == 0) {
            return STATE;
        }
        Sheet row = sheets[sheet];
        int met = row.faultOfCells(lane, i, 2 * n);
        if (met != NO_FAULT) {
            return failBy(met);
        }
        int refusal = refusalOfPairs(row, i, n);
        if (refusal != 0) {
            return refusal;
        }
        int wrong = tale.play(town, row, i, n);
        if (what == 1) {
            return wrong;
        }
        return wrong == NONE ? tale.answerTo(what) : WRONG_BASE - wrong;
    }

    // ---- 3 keepers

    public int ring(int house) {
        return town.has(house) ? town.keepersUpTo(house, house) : UNKNOWN;
    }

    public int reach(int from, int to) {
        return town.has(from) && town.has(to) ? town.keepersUpTo(from, to) : UNKNOWN;
    }

    public int keeping(int k) {
        if (k < -1 || k >= MOST_HOUSES) {
            return OUTSIDE;
        }
        if (town.houses == 0) {
            return STATE;
        }
        if (k >= town.houses) {
            return NONE;
        }
        seating.weigh(town);
        return k == -1 ? seating.most[0] : seating.keeperFor(k, town);
    }

    public int trade(int what) {
        if (!isWithin(what, 3)) {
            return OUTSIDE;
        }
        if (town.houses == 0) {
            return STATE;
        }
        int bestGain = 0;
        int lesser = NONE;
        int greater = NONE;
        for (int a = 0; a < town.houses; a++) {
            for (int b = a + 1; b < town.houses; b++) {
                int gain = town.gainOfExchange(a, b);
                if (gain > bestGain) {
                    bestGain = gain;
                    lesser = a;
                    greater = b;
                }
            }
        }
        if (what == 0) {
            return bestGain > 0 ? bestGain : NONE;
        }
        return what == 1 ? lesser : greater;
    }

    public int first(int what) {
        if (!isWithin(what, 2)) {
            return OUTSIDE;
        }
        if (town.houses == 0) {
            return STATE;
        }
        int who = NONE;
        int least = LONGEST_LIFE;
        for (int k = 0; k < town.houses; k++) {
            if (town.isAlive(k) && town.lifeOf(k) < least) {
                who = k;
                least = town.lifeOf(k);
            }
        }
        return what == 0 || who == NONE ? who : least;
    }

    public int found(int sheet, int lane, int i, int n) {
        lastFault = NO_FAULT;
        if (!isWithin(sheet, SHEETS)) {
            return UNKNOWN;
        }
        if (!isWithin(lane, LANES) || !isWithin(n, MOST_FOUND + 1)) {
            return OUTSIDE;
        }
        if (town.houses == 0) {
            return STATE;
        }
        Sheet row = sheets[sheet];
        int met = row.faultOfCells(lane, i, n);
        if (met != NO_FAULT) {
            return failBy(met);
        }
        int set = 0;
        for (int k = 0; k < town.houses; k++) {
            if (town.runsAs(k, row, i, n)) {
                set |= 1 << k;
            }
        }
        return set;
    }

    // ---- 4 what was left

    public int reading(int k, int y, int v) {
        if (!town.has(k)) {
            return UNKNOWN;
        }
        if (!isWithin(y, MOST_YEARS + 1) || !isWithin(v, MOST_SAND + 1)) {
            return OUTSIDE;
        }
        return readings.count < MOST_READINGS ? readings.add(k, y, v) : FULL;
    }

    public int back(int k) {
        if (k < 0 || k > readings.count) {
            return OUTSIDE;
        }
        readings.count -= k;
        return readings.count;
    }

    public int necks(int k) {
        return town.has(k) ? readings.setThatFits(town, town.neck, k, MOST_NECK + 1) : UNKNOWN;
    }

    public int kinds(int k) {
        return town.has(k) ? readings.setThatFits(town, town.kind, k, KINDS) : UNKNOWN;
    }

    public int keepers(int k) {
        return town.has(k) ? readings.setThatFits(town, town.keeper, k, town.houses) : UNKNOWN;
    }

    public long odds(int k, int y, int which) {
        if (!town.has(k) || !isWithin(y, MOST_YEARS + 1) || !isWithin(which, 2)) {
            return LOST;
        }
        int others = town.houses - 1;
        int lasting = 0;
        for (int house = 0; house < town.houses; house++) {
            if (house != k && town.lifeKeptBy(k, house) >= y) {
                lasting++;
            }
        }
        int shared = greatestDivisor(others, lasting);
        return which == 0 ? lasting / shared : others / shared;
    }

    // ---- 5 sheets, parts

    public int sheet(int k, int lane, int n) {
        lastFault = NO_FAULT;
        if (!isWithin(k, SHEETS)) {
            return UNKNOWN;
        }
        if (!isWithin(lane, LANES) || n > MOST_CELLS) {
            return OUTSIDE;
        }
        if (n < 0) {
            return failBy(SIZE);
        }
        sheets[k].begin(lane, n);
        return 1;
    }

    public int lose(int k) {
        if (!isWithin(k, SHEETS)) {
            return UNKNOWN;
        }
        boolean had = sheets[k].hasRow;
        sheets[k].hasRow = false;
        return had ? 1 : 0;
    }

    public int put(int k, int i, int v) {
        lastFault = NO_FAULT;
        if (!isWithin(k, SHEETS)) {
            return UNKNOWN;
        }
        Sheet row = sheets[k];
        if (!row.hasRow) {
            return failBy(NULL);
        }
        if (!isWithin(i, row.size)) {
            return failBy(INDEX);
        }
        row.cells[i] = row.cutToLane(v);
        return 1;
    }

    public long cell(int k, int i, int lane) {
        lastFault = NO_FAULT;
        if (!isWithin(k, SHEETS) || !isWithin(lane, LANES)) {
            return LOST;
        }
        Sheet row = sheets[k];
        int met = row.faultOfRow(lane);
        if (met == NO_FAULT && !isWithin(i, row.size)) {
            met = INDEX;
        }
        if (met != NO_FAULT) {
            lastFault = met;
            return LOST;
        }
        return row.cells[i];
    }

    public int copy(int k, int i, int other, int j, int n) {
        lastFault = NO_FAULT;
        if (!isWithin(k, SHEETS) || !isWithin(other, SHEETS)) {
            return UNKNOWN;
        }
        Sheet from = sheets[k];
        Sheet to = sheets[other];
        if (!from.hasRow || !to.hasRow) {
            return failBy(NULL);
        }
        if (from.lane != to.lane) {
            return failBy(CAST);
        }
        if (n < 0 || !from.hasCells(i, n) || !to.hasCells(j, n)) {
            return failBy(INDEX);
        }
        System.arraycopy(from.cells, i, to.cells, j, n);
        return n;
    }

    public int tell(int k) {
        if (!town.has(k)) {
            return UNKNOWN;
        }
        switch (town.kind[k]) {
            case PLAIN: return tellAsPlain(k);
            case WIDE: return tellAsWide(k);
            default: return tellAsCracked(k);
        }
    }

    public int dust(int k) {
        if (!town.has(k)) {
            return UNKNOWN;
        }
        if (town.kind[k] == CRACKED) {
            leaveTrace(OWN_BODY);
            return 50;
        }
        leaveTrace(LENT_BODY);
        return k;
    }

    public int as(int k, int kind) {
        lastFault = NO_FAULT;
        if (!town.has(k)) {
            return UNKNOWN;
        }
        if (!isWithin(kind, KINDS)) {
            return OUTSIDE;
        }
        // Each kind is also every kind of a lesser number.
        return town.kind[k] >= kind ? 1 : failBy(CAST);
    }

    public int trace() {
        return lastTrace;
    }

    public int fault() {
        return lastFault;
    }

    public int many(int what) {
        switch (what) {
            case 0: return town.houses;
            case 1: return Integer.bitCount(town.setOfLiving());
            case 2: return town.year;
            case 3: return readings.count;
            default: return OUTSIDE;
        }
    }

    // ---- what the calls share

    private static boolean isWithin(int number, int bound) {
        return number >= 0 && number < bound;
    }

    /** What divides both: a, if b is 0; never below 1. */
    private static int greatestDivisor(int a, int b) {
        for (int divisor = a; divisor > 1; divisor--) {
            if (a % divisor == 0 && b % divisor == 0) {
                return divisor;
            }
        }
        return 1;
    }

    private int failBy(int met) {
        lastFault = met;
        return FAULT_BASE - met;
    }

    private int actNow(int k, int act) {
        if (!town.has(k)) {
            return UNKNOWN;
        }
        return town.doAct(k, act) ? town.sand[k] : STATE;
    }

    private static boolean isAskedOfChronicle(int what) {
        return isWithin(what, 4) || isWithin(what - 10, MOST_HOUSES) || isWithin(what - 20, MOST_HOUSES);
    }

    private int refusalOfPairs(Sheet row, int i, int n) {
        for (int pair = 0; pair < n; pair++) {
            int one = row.cells[i + 2 * pair];
            int act = row.cells[i + 2 * pair + 1];
            if (act == YEARS) {
                if (!isWithin(one, MOST_ACT_YEARS + 1)) {
                    return OUTSIDE;
                }
            } else if (!isWithin(act, TURN + 1)) {
                return OUTSIDE;
            } else if (!town.has(one)) {
                return UNKNOWN;
            }
        }
        return 0;
    }

    private void leaveTrace(int body) {
        lastTrace = 31 * lastTrace + body;
    }

    private int tellAsPlain(int k) {
        leaveTrace(PLAIN_BODY);
        return town.neck[k];
    }

    private int tellAsWide(int k) {
        leaveTrace(WIDE_BODY);
        return tellAsPlain(k) + 100;
    }

    private int tellAsCracked(int k) {
        leaveTrace(CRACKED_BODY);
        int asWide = tellAsWide(k);
        return asWide + tellAsPlain(k);
    }

    /** All that a SEE holds; without one there are 0 houses. */
    private static final class Town {
        private final int[] kind = new int[MOST_HOUSES];
        private final int[] sand = new int[MOST_HOUSES];
        private final int[] full = new int[MOST_HOUSES];
        private final int[] neck = new int[MOST_HOUSES];
        private final int[] heat = new int[MOST_HOUSES];
        private final int[] keeper = new int[MOST_HOUSES];
        private final boolean[] laid = new boolean[MOST_HOUSES];
        private int houses;
        private int year;

        private boolean has(int k) {
            return isWithin(k, houses);
        }

        private void becomeLike(Town other) {
            houses = other.houses;
            year = other.year;
            for (int k = 0; k < MOST_HOUSES; k++) {
                kind[k] = other.kind[k];
                sand[k] = other.sand[k];
                full[k] = other.full[k];
                neck[k] = other.neck[k];
                heat[k] = other.heat[k];
                keeper[k] = other.keeper[k];
                laid[k] = other.laid[k];
            }
        }

        /** Answers TAKEN or the FIRST FAULT, behind which this town is of no use. */
        private int readText(Sheet row, int i, int n) {
            for (int place = 0; place < n; place++) {
                if (!takesCode(place, row.cells[i + place])) {
                    return place;
                }
            }
            if (n < TEXT_HEAD || n < TEXT_HEAD + TEXT_PER_HOUSE * houses) {
                return n;
            }
            year = 0;
            for (int k = 0; k < houses; k++) {
                sand[k] = full[k];
                laid[k] = false;
            }
            return TAKEN;
        }

        private boolean takesCode(int place, int code) {
            if (place == 0) {
                return code == 's';
            }
            if (place == 1) {
                houses = digitOf(code);
                return houses >= LEAST_HOUSES && houses <= MOST_HOUSES;
            }
            int k = (place - TEXT_HEAD) / TEXT_PER_HOUSE;
            return has(k) && takesCodeOfHouse(k, (place - TEXT_HEAD) % TEXT_PER_HOUSE, code);
        }

        private boolean takesCodeOfHouse(int k, int part, int code) {
            int digit = digitOf(code);
            switch (part) {
                case 0:
                    return code == ';';
                case 1:
                    kind[k] = kindOf(code);
                    return kind[k] >= 0;
                case 2:
                    full[k] = 10 * digit;
                    return digit >= 0;
                case 3:
                    full[k] += digit;
                    return digit >= 0 && full[k] > 0;
                case 4:
                    neck[k] = digit;
                    return digit >= 0;
                case 5:
                    heat[k] = digit;
                    return isWithin(digit, MOST_HEAT + 1);
                default:
                    keeper[k] = digit;
                    return has(digit);
            }
        }

        private static int digitOf(int code) {
            return code >= '0' && code <= '9' ? code - '0' : -1;
        }

        private static int kindOf(int code) {
            switch (code) {
                case 'p': return PLAIN;
                case 'w': return WIDE;
                case 'c': return CRACKED;
                default: return -1;
            }
        }

        private int rateKeptBy(int k, int house) {
            int plain = neck[k] + heat[house];
            switch (kind[k]) {
                case PLAIN: return plain;
                case WIDE: return plain + 1;
                default: return (plain + 1) / 2;
            }
        }

        private boolean isAlive(int k) {
            return sand[k] > 0;
        }

        private boolean isHand(int k) {
            return isAlive(k) && !laid[k];
        }

        private int setOfLiving() {
            int set = 0;
            for (int k = 0; k < houses; k++) {
                if (isAlive(k)) {
                    set |= 1 << k;
                }
            }
            return set;
        }

        private int setOfStiff() {
            int set = 0;
            for (int k = 0; k < houses; k++) {
                if (isAlive(k) && laid[k]) {
                    set |= 1 << k;
                }
            }
            return set;
        }

        private int setKeptBy(int house) {
            int set = 0;
            for (int k = 0; k < houses; k++) {
                if (keeper[k] == house) {
                    set |= 1 << k;
                }
            }
            return set;
        }

        private int sandBehind(int k, int years) {
            return laid[k] ? sand[k] : Math.max(0, sand[k] - years * rateKeptBy(k, keeper[k]));
        }

        private void passYear() {
            for (int k = 0; k < houses; k++) {
                sand[k] = sandBehind(k, 1);
            }
            year++;
        }

        /** Answers whether the act can be; if not, nothing is changed. */
        private boolean doAct(int k, int act) {
            if (!isAlive(k) || !isHand(keeper[k]) || laid[k] != (act == RAISE)) {
                return false;
            }
            if (act == TURN) {
                sand[k] = full[k] - sand[k];
            } else {
                laid[k] = act == LAY;
            }
            return true;
        }

        private int lifeOf(int k) {
            return lifeKeptBy(k, keeper[k]);
        }

        private int lifeKeptBy(int k, int house) {
            if (!isAlive(k)) {
                return 0;
            }
            int rate = rateKeptBy(k, house);
            if (laid[k] || rate <= 0) {
                return LONGEST_LIFE;
            }
            // SAND is 99 at most, and so is this.
            return (sand[k] + rate - 1) / rate;
        }

        private int gainOfExchange(int a, int b) {
            int exchanged = lifeKeptBy(a, keeper[b]) + lifeKeptBy(b, keeper[a]);
            return exchanged - lifeOf(a) - lifeOf(b);
        }

        private int keepersUpTo(int from, int to) {
            int at = to;
            for (int steps = 1; steps <= houses; steps++) {
                at = keeper[at];
                if (at == from) {
                    return steps;
                }
            }
            return NONE;
        }

        private boolean runsAs(int k, Sheet row, int i, int n) {
            for (int years = 0; years < n; years++) {
                if (row.cells[i + years] != sandBehind(k, years)) {
                    return false;
                }
            }
            return true;
        }
    }

    /** A CHRONICLE as it is played on a town of its own, so that nothing is changed by it. */
    private static final class Tale {
        private final Town played = new Town();
        private final int[] diedBehind = new int[MOST_HOUSES];
        private int years;

        /** Answers the FIRST WRONG, or NONE. */
        private int play(Town start, Sheet row, int i, int n) {
            played.becomeLike(start);
            years = 0;
            for (int k = 0; k < MOST_HOUSES; k++) {
                diedBehind[k] = NONE;
            }
            for (int pair = 0; pair < n; pair++) {
                if (!playPair(row.cells[i + 2 * pair], row.cells[i + 2 * pair + 1])) {
                    return pair;
                }
            }
            return NONE;
        }

        private boolean playPair(int one, int act) {
            if (act == YEARS) {
                return playYears(one);
            }
            int before = played.setOfLiving();
            if (!played.has(one) || !played.doAct(one, act)) {
                return false;
            }
            noteDeaths(before);
            return true;
        }

        private boolean playYears(int count) {
            if (played.year + count > LAST_YEAR) {
                return false;
            }
            for (int passed = 0; passed < count; passed++) {
                int before = played.setOfLiving();
                played.passYear();
                years++;
                noteDeaths(before);
            }
            return true;
        }

        private void noteDeaths(int before) {
            int died = before & ~played.setOfLiving();
            for (int k = 0; k < MOST_HOUSES; k++) {
                if ((died >> k & 1) != 0) {
                    diedBehind[k] = years;
                }
            }
        }

        private int answerTo(int what) {
            if (what == 0) {
                return Integer.bitCount(played.setOfLiving());
            }
            if (what == 2) {
                return years;
            }
            if (what == 3) {
                return played.setOfLiving();
            }
            if (isWithin(what - 20, MOST_HOUSES)) {
                return diedBehind[what - 20];
            }
            return played.has(what - 10) ? played.sand[what - 10] : NONE;
        }
    }

    /** KEEPING: GLASSES get KEEPERS in their order; what is left to gain hangs on the taken HOUSES alone. */
    private static final class Seating {
        private static final int NO_WAY = -1;

        private final int[] most = new int[1 << MOST_HOUSES];

        private void weigh(Town town) {
            int all = (1 << town.houses) - 1;
            most[all] = 0;
            for (int taken = all - 1; taken >= 0; taken--) {
                int k = Integer.bitCount(taken);
                most[taken] = NO_WAY;
                for (int house = 0; house < town.houses; house++) {
                    most[taken] = Math.max(most[taken], livesBy(town, k, house, taken));
                }
            }
        }

        /** The LIVES of GLASS k and all behind it, if HOUSE house is the next that is taken. */
        private int livesBy(Town town, int k, int house, int taken) {
            if (house == k || (taken >> house & 1) != 0) {
                return NO_WAY;
            }
            int behind = most[taken | 1 << house];
            return behind == NO_WAY ? NO_WAY : behind + town.lifeKeptBy(k, house);
        }

        private int keeperFor(int glass, Town town) {
            int taken = 0;
            int chosen = NONE;
            for (int k = 0; k <= glass; k++) {
                chosen = firstOfMost(town, k, taken);
                if (chosen == NONE) {
                    return NONE;
                }
                taken |= 1 << chosen;
            }
            return chosen;
        }

        private int firstOfMost(Town town, int k, int taken) {
            for (int house = 0; house < town.houses; house++) {
                int lives = livesBy(town, k, house, taken);
                if (lives != NO_WAY && lives == most[taken]) {
                    return house;
                }
            }
            return NONE;
        }
    }

    private static final class Readings {
        private final int[] glass = new int[MOST_READINGS];
        private final int[] years = new int[MOST_READINGS];
        private final int[] left = new int[MOST_READINGS];
        private int count;

        private int add(int k, int y, int v) {
            glass[count] = k;
            years[count] = y;
            left[count] = v;
            count++;
            return count - 1;
        }

        private boolean areSo(Town town) {
            for (int r = 0; r < count; r++) {
                if (town.sandBehind(glass[r], years[r]) != left[r]) {
                    return false;
                }
            }
            return true;
        }

        /** Which of 0 .. bound - 1, as part[k] of the town, make all readings so; part[k] is as before behind it. */
        private int setThatFits(Town town, int[] part, int k, int bound) {
            int was = part[k];
            int set = 0;
            for (int v = 0; v < bound; v++) {
                part[k] = v;
                if (areSo(town)) {
                    set |= 1 << v;
                }
            }
            part[k] = was;
            return set;
        }
    }

    private static final class Sheet {
        private final int[] cells = new int[MOST_CELLS];
        private boolean hasRow;
        private int lane;
        private int size;

        private void begin(int newLane, int newSize) {
            hasRow = true;
            lane = newLane;
            size = newSize;
            for (int i = 0; i < MOST_CELLS; i++) {
                cells[i] = 0;
            }
        }

        private int cutToLane(int v) {
            switch (lane) {
                case 0: return (byte) v;
                case 1: return (short) v;
                default: return v;
            }
        }

        private boolean hasCells(int i, int n) {
            return i >= 0 && i <= size && n <= size - i;
        }

        private int faultOfRow(int asLane) {
            if (!hasRow) {
                return NULL;
            }
            return lane == asLane ? NO_FAULT : CAST;
        }

        private int faultOfCells(int asLane, int i, int n) {
            int met = faultOfRow(asLane);
            if (met != NO_FAULT) {
                return met;
            }
            if (n < 0) {
                return SIZE;
            }
            return hasCells(i, n) ? NO_FAULT : INDEX;
        }
    }
}
