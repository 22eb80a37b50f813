import java.util.Arrays;

/** Ordinances of a rooftop city; what each method promises stands in the project's document. */
public final class RoofOrdinances {
    public static final int INVALID_ARGUMENT = -1;
    public static final int NOT_POSSIBLE = -2;
    public static final int LIMIT_REACHED = -3;
    public static final int NOT_FOUND = -4;

    private static final int ROOFS = 16;
    private static final int ROW_LENGTH = 4;
    private static final int FIRST_CROSS_GANGWAY = 16;
    private static final int GANGWAYS = 28;
    private static final int OWNERS = 4;
    private static final int DIRECTIONS = 4;
    private static final int NONE = -1;

    private static final int EAST = 0;
    private static final int SOUTH = 1;
    private static final int WEST = 2;

    private static final int MOST_BORNE = 9;
    private static final int BORNE_AT_FIRST = 5;
    private static final int STRENGTH_OF_STAYING = 10;
    private static final int MOST_WEIGHT = 9;
    private static final int WEIGHT_AT_FIRST = 3;
    private static final int ALL_ROOFS = 65535;
    private static final int MOST_REACH = 3;
    private static final int REACH_AT_FIRST = 2;
    private static final int LOTS = 10000;
    private static final int MOST_DAYS = 30;
    private static final int HISTORY_LIMIT = 4;
    private static final int PAD_LIMIT = 60;

    private static final int ALLOWED = 0;
    private static final int NO_GANGWAY = 1;
    private static final int LINE_THERE = 2;
    private static final int NO_KEY = 3;
    private static final int IN_SMOKE = 4;
    private static final int NEAR_COOP = 5;
    private static final int NO_LINE = 6;
    private static final int LINE_OF_OTHER = 7;
    private static final int TOO_WEAK = 8;
    private static final int LINE_IN_WAY = 9;
    // The answers of orders that are not refused begin here, above every reason.
    private static final int DONE = 10;

    private final City city;
    private final City trial;
    private final City snapshot;
    private boolean snapshotTaken;
    private final History history;
    private final Ways ways;
    private final Pad pad;
    private final OrderReader reader;
    private boolean stopped;
    private int stopCause;
    private int stopNumber;
    private int stopPosition;

    public RoofOrdinances() {
        city = new City();
        trial = new City();
        snapshot = new City();
        history = new History();
        ways = new Ways();
        pad = new Pad();
        reader = new OrderReader(pad);
    }

    // ---- the city

    public int bears(int gangway, int much) {
        if (!Plan.isGangway(gangway) || !isWithin(much, 0, MOST_BORNE)) {
            return INVALID_ARGUMENT;
        }
        history.push(city);
        int before = city.borne[gangway];
        city.letBear(gangway, much);
        return before;
    }

    public int wind(int to) {
        if (!isWithin(to, 0, DIRECTIONS - 1)) {
            return INVALID_ARGUMENT;
        }
        history.push(city);
        int before = city.windTo;
        city.windTo = to;
        return before;
    }

    public int chimney(int roof) {
        if (!isRoof(roof)) {
            return INVALID_ARGUMENT;
        }
        history.push(city);
        city.toggleChimney(roof);
        return Integer.bitCount(city.smokeBlown(city.windTo));
    }

    public int coop(int roof) {
        if (!isRoof(roof)) {
            return INVALID_ARGUMENT;
        }
        history.push(city);
        city.coops ^= 1 << roof;
        return Integer.bitCount(city.coops);
    }

    public int owner(int owner, int weight, int keys, boolean truce) {
        if (!isOwner(owner) || !isWithin(weight, 1, MOST_WEIGHT) || !isWithin(keys, 0, ALL_ROOFS)) {
            return INVALID_ARGUMENT;
        }
        history.push(city);
        int before = city.weights[owner];
        city.weights[owner] = weight;
        city.keys[owner] = keys;
        city.setTruce(owner, truce);
        return before;
    }

    public int reach(int roofs) {
        if (!isWithin(roofs, 0, MOST_REACH)) {
            return INVALID_ARGUMENT;
        }
        history.push(city);
        int before = city.smokeReach;
        city.smokeReach = roofs;
        return before;
    }

    // ---- lines, walks, days

    public int hang(int owner, int gangway) {
        if (!isOwner(owner) || !Plan.isGangway(gangway)) {
            return INVALID_ARGUMENT;
        }
        history.push(city);
        return city.hangLine(owner, gangway);
    }

    public int take(int owner, int gangway) {
        if (!isOwner(owner) || !Plan.isGangway(gangway)) {
            return INVALID_ARGUMENT;
        }
        history.push(city);
        return city.takeLine(owner, gangway);
    }

    public int walk(int owner, int gangway) {
        if (!isOwner(owner) || !Plan.isGangway(gangway)) {
            return INVALID_ARGUMENT;
        }
        if (!city.standsAt(owner, gangway)) {
            return NOT_POSSIBLE;
        }
        history.push(city);
        return city.walkOver(owner, gangway);
    }

    public int day() {
        history.push(city);
        city.passDay();
        return Integer.bitCount(city.cleanLines());
    }

    // ---- texts

    public int append(int code) {
        if (!isWithin(code, 33, 126)) {
            return INVALID_ARGUMENT;
        }
        if (pad.length >= PAD_LIMIT) {
            return LIMIT_REACHED;
        }
        pad.add((char) code);
        return pad.length;
    }

    public int clear() {
        int before = pad.length;
        pad.length = 0;
        return before;
    }

    public int fault() {
        return reader.firstFault();
    }

    public int run() {
        if (reader.firstFault() != NOT_FOUND) {
            return NOT_POSSIBLE;
        }
        history.push(city);
        stopped = false;
        reader.rewind();
        int carriedOut = 0;
        for (int number = 0; number < PAD_LIMIT && !stopped && reader.readNext(); number++) {
            int cause = carryOutOrder();
            if (cause == ALLOWED) {
                carriedOut++;
            } else {
                keepStop(cause, number);
            }
        }
        pad.length = 0;
        return carriedOut;
    }

    public int why(int what) {
        if (!isWithin(what, 0, 2)) {
            return INVALID_ARGUMENT;
        }
        if (!stopped) {
            return NOT_FOUND;
        }
        switch (what) {
            case 0:
                return stopCause;
            case 1:
                return stopNumber;
            default:
                return stopPosition;
        }
    }

    // ---- looks; nothing is changed

    public int roof(int roof, int what) {
        if (!isRoof(roof) || !isWithin(what, 0, 7)) {
            return INVALID_ARGUMENT;
        }
        switch (what) {
            case 0:
                return bitOf(city.chimneys, roof);
            case 1:
                return bitOf(city.smokeBlown(city.windTo), roof);
            case 2:
                return city.chimneysSmoking(roof);
            case 3:
                return bitOf(city.coops, roof);
            case 4:
                return city.ownersOn(roof);
            case 5:
                return Integer.bitCount(city.standingGangways() & Plan.gangwaysOf(roof));
            case 6:
                return Integer.bitCount(city.allLines() & Plan.gangwaysOf(roof));
            default:
                return Integer.bitCount(ways.roofsFrom(city, roof));
        }
    }

    public int gangway(int gangway, int what) {
        if (!Plan.isGangway(gangway) || !isWithin(what, 0, 6)) {
            return INVALID_ARGUMENT;
        }
        switch (what) {
            case 0:
                return city.borne[gangway];
            case 1:
                return Plan.lesserRoof(gangway);
            case 2:
                return Plan.greaterRoof(gangway);
            case 3:
                return city.hasLine(gangway) ? city.hangers[gangway] : NOT_FOUND;
            case 4:
                return city.hasLine(gangway) ? city.soot[gangway] : NOT_FOUND;
            case 5:
                return city.hasLine(gangway) ? city.spots[gangway] : NOT_FOUND;
            default:
                return Integer.bitCount(city.smokeBlown(city.windTo) & Plan.roofsOf(gangway));
        }
    }

    public int ownerOf(int owner, int what) {
        if (!isOwner(owner) || !isWithin(what, 0, 8)) {
            return INVALID_ARGUMENT;
        }
        switch (what) {
            case 0:
                return city.weights[owner];
            case 1:
                return city.keys[owner];
            case 2:
                return bitOf(city.truces, owner);
            case 3:
                return city.places[owner];
            case 4:
                return Integer.bitCount(city.linesOf(owner));
            case 5:
                return Integer.bitCount(city.linesOf(owner) & city.cleanLines());
            case 6:
                return city.walksOpenTo(owner);
            case 7:
                return city.walks[owner];
            default:
                return city.hangingsOpenTo(owner);
        }
    }

    public int whyNotHang(int owner, int gangway) {
        if (!isOwner(owner) || !Plan.isGangway(gangway)) {
            return INVALID_ARGUMENT;
        }
        return city.reasonNotToHang(owner, gangway);
    }

    public int strongest(int from, int to, int way) {
        if (!isRoof(from) || !isRoof(to) || !isWithin(way, 0, 1)) {
            return INVALID_ARGUMENT;
        }
        return way == 0 ? ways.strongestByJoining(city, from, to) : ways.strongestBySpreading(city, from, to);
    }

    public int steps(int owner, int roof) {
        if (!isOwner(owner) || !isRoof(roof)) {
            return INVALID_ARGUMENT;
        }
        return ways.fewestWalks(city, owner, roof);
    }

    public int count(int what) {
        if (!isWithin(what, 0, 17)) {
            return INVALID_ARGUMENT;
        }
        if (what == 16) {
            return pad.length;
        }
        if (what == 17) {
            return history.size;
        }
        return what < 10 ? city.numberOfNow(what) : city.numberSoFar(what);
    }

    public double cleanness() {
        int lines = Integer.bitCount(city.allLines());
        if (lines == 0) {
            return 1.0;
        }
        return (double) Integer.bitCount(city.cleanLines()) / (double) lines;
    }

    // ---- what would be; nothing is changed

    public int ifWind(int to) {
        if (!isWithin(to, 0, DIRECTIONS - 1)) {
            return INVALID_ARGUMENT;
        }
        return city.linesSmokedBy(to);
    }

    public int bestWind() {
        int best = EAST;
        for (int to = 1; to < DIRECTIONS; to++) {
            if (city.linesSmokedBy(to) < city.linesSmokedBy(best)) {
                best = to;
            }
        }
        return best;
    }

    public int ifDays(int days, int what) {
        if (!isWithin(days, 1, MOST_DAYS) || !isWithin(what, 0, 3)) {
            return INVALID_ARGUMENT;
        }
        trial.copyFrom(city);
        for (int passed = 0; passed < days; passed++) {
            trial.passDay();
        }
        switch (what) {
            case 0:
                return Integer.bitCount(trial.cleanLines());
            case 1:
                return trial.sumOverLines(trial.soot);
            case 2:
                return trial.sumOverLines(trial.spots);
            default:
                return trial.windTo;
        }
    }

    public int bestPlace(int owner) {
        if (!isOwner(owner)) {
            return INVALID_ARGUMENT;
        }
        int best = NOT_FOUND;
        int fewest = DIRECTIONS + 1;
        for (int gangway = 0; gangway < GANGWAYS; gangway++) {
            if (city.reasonNotToHang(owner, gangway) == ALLOWED) {
                int winds = city.windsSmoking(gangway);
                if (winds < fewest) {
                    fewest = winds;
                    best = gangway;
                }
            }
        }
        return best;
    }

    // ---- history, snapshot

    public int undo() {
        if (history.size == 0) {
            return NOT_POSSIBLE;
        }
        history.popInto(city);
        return history.size;
    }

    public int save() {
        snapshot.copyFrom(city);
        snapshotTaken = true;
        return Integer.bitCount(city.allLines());
    }

    public int restore() {
        if (!snapshotTaken) {
            return NOT_POSSIBLE;
        }
        history.push(city);
        city.copyFrom(snapshot);
        return Integer.bitCount(city.allLines());
    }

    private void keepStop(int cause, int number) {
        stopped = true;
        stopCause = cause;
        stopNumber = number;
        stopPosition = reader.start;
    }

    // What a day or a chimney answers may be as small as a reason, so answers are not handed on.
    private int carryOutOrder() {
        switch (reader.letter) {
            case 'h':
                return causeIn(city.hangLine(reader.orderOwner, reader.orderNumber));
            case 't':
                return causeIn(city.takeLine(reader.orderOwner, reader.orderNumber));
            case 'w':
                if (!city.standsAt(reader.orderOwner, reader.orderNumber)) {
                    return NOT_POSSIBLE;
                }
                return causeIn(city.walkOver(reader.orderOwner, reader.orderNumber));
            case 'c':
                city.toggleChimney(reader.orderNumber);
                return ALLOWED;
            default:
                city.passDay();
                return ALLOWED;
        }
    }

    private static int causeIn(int answer) {
        return answer >= DONE ? ALLOWED : answer;
    }

    private static boolean isWithin(int value, int least, int greatest) {
        return value >= least && value <= greatest;
    }

    private static boolean isRoof(int roof) {
        return isWithin(roof, 0, ROOFS - 1);
    }

    private static boolean isOwner(int owner) {
        return isWithin(owner, 0, OWNERS - 1);
    }

    private static int bitOf(int set, int number) {
        return set >> number & 1;
    }

    private static boolean isIn(int set, int number) {
        return (set >> number & 1) == 1;
    }

    /** What never changes: which roofs are next to each other, and which gangways lead where. */
    private static final class Plan {
        static boolean isGangway(int gangway) {
            if (!isWithin(gangway, 0, GANGWAYS - 1)) {
                return false;
            }
            return gangway >= FIRST_CROSS_GANGWAY || gangway % ROW_LENGTH != ROW_LENGTH - 1;
        }

        static int lesserRoof(int gangway) {
            return gangway < FIRST_CROSS_GANGWAY ? gangway : gangway - FIRST_CROSS_GANGWAY;
        }

        static int greaterRoof(int gangway) {
            return lesserRoof(gangway) + (gangway < FIRST_CROSS_GANGWAY ? 1 : ROW_LENGTH);
        }

        static int roofsOf(int gangway) {
            return (1 << lesserRoof(gangway)) | (1 << greaterRoof(gangway));
        }

        static int otherRoof(int gangway, int roof) {
            return roof == lesserRoof(gangway) ? greaterRoof(gangway) : lesserRoof(gangway);
        }

        static int gangwaysOf(int roof) {
            int set = 0;
            for (int gangway = 0; gangway < GANGWAYS; gangway++) {
                if (isGangway(gangway) && isIn(roofsOf(gangway), roof)) {
                    set |= 1 << gangway;
                }
            }
            return set;
        }

        static int nextRoof(int roof, int direction) {
            switch (direction) {
                case EAST:
                    return roof % ROW_LENGTH < ROW_LENGTH - 1 ? roof + 1 : NONE;
                case SOUTH:
                    return roof < ROOFS - ROW_LENGTH ? roof + ROW_LENGTH : NONE;
                case WEST:
                    return roof % ROW_LENGTH > 0 ? roof - 1 : NONE;
                default:
                    return roof >= ROW_LENGTH ? roof - ROW_LENGTH : NONE;
            }
        }

        static int roofAndNext(int roof, int direction, int most) {
            int set = 0;
            int at = roof;
            for (int step = 0; step <= most && at != NONE; step++) {
                set |= 1 << at;
                at = nextRoof(at, direction);
            }
            return set;
        }

        static int roofAndNeighbours(int roof) {
            int set = 1 << roof;
            for (int direction = 0; direction < DIRECTIONS; direction++) {
                int next = nextRoof(roof, direction);
                if (next != NONE) {
                    set |= 1 << next;
                }
            }
            return set;
        }
    }

    /** All that changes, but the pad, the history, the snapshot and the latest stop. */
    private static final class City {
        final int[] borne = new int[GANGWAYS];
        final int[] hangers = new int[GANGWAYS];
        final int[] soot = new int[GANGWAYS];
        final int[] spots = new int[GANGWAYS];
        final int[] weights = new int[OWNERS];
        final int[] keys = new int[OWNERS];
        final int[] places = new int[OWNERS];
        final int[] walks = new int[OWNERS];
        int truces;
        int chimneys;
        int coops;
        int windTo = EAST;
        int smokeReach = REACH_AT_FIRST;
        int dayNumber;
        int lot = 1;
        int hung;
        int taken;
        int fallen;
        int refused;

        City() {
            // Numbers that are no gangway bear 0 for ever, so that nothing hangs or walks there.
            for (int gangway = 0; gangway < GANGWAYS; gangway++) {
                borne[gangway] = Plan.isGangway(gangway) ? BORNE_AT_FIRST : 0;
            }
            Arrays.fill(hangers, NONE);
            Arrays.fill(weights, WEIGHT_AT_FIRST);
            Arrays.fill(keys, ALL_ROOFS);
            for (int owner = 0; owner < OWNERS; owner++) {
                places[owner] = 5 * owner;
            }
        }

        void copyFrom(City other) {
            System.arraycopy(other.borne, 0, borne, 0, GANGWAYS);
            System.arraycopy(other.hangers, 0, hangers, 0, GANGWAYS);
            System.arraycopy(other.soot, 0, soot, 0, GANGWAYS);
            System.arraycopy(other.spots, 0, spots, 0, GANGWAYS);
            System.arraycopy(other.weights, 0, weights, 0, OWNERS);
            System.arraycopy(other.keys, 0, keys, 0, OWNERS);
            System.arraycopy(other.places, 0, places, 0, OWNERS);
            System.arraycopy(other.walks, 0, walks, 0, OWNERS);
            truces = other.truces;
            chimneys = other.chimneys;
            coops = other.coops;
            windTo = other.windTo;
            smokeReach = other.smokeReach;
            dayNumber = other.dayNumber;
            lot = other.lot;
            hung = other.hung;
            taken = other.taken;
            fallen = other.fallen;
            refused = other.refused;
        }

        void letBear(int gangway, int much) {
            borne[gangway] = much;
            if (much == 0 && hasLine(gangway)) {
                hangers[gangway] = NONE;
                fallen++;
            }
        }

        void toggleChimney(int roof) {
            chimneys ^= 1 << roof;
        }

        void setTruce(int owner, boolean truce) {
            truces = truce ? truces | (1 << owner) : truces & ~(1 << owner);
        }

        boolean hasLine(int gangway) {
            return hangers[gangway] != NONE;
        }

        boolean isThere(int gangway) {
            return borne[gangway] > 0;
        }

        int smokeBlown(int to) {
            int set = 0;
            for (int roof = 0; roof < ROOFS; roof++) {
                if (isIn(chimneys, roof)) {
                    set |= Plan.roofAndNext(roof, to, smokeReach);
                }
            }
            return set;
        }

        int chimneysSmoking(int roof) {
            int number = 0;
            for (int from = 0; from < ROOFS; from++) {
                if (isIn(chimneys, from) && isIn(Plan.roofAndNext(from, windTo, smokeReach), roof)) {
                    number++;
                }
            }
            return number;
        }

        int windsSmoking(int gangway) {
            int winds = 0;
            for (int to = 0; to < DIRECTIONS; to++) {
                if ((smokeBlown(to) & Plan.roofsOf(gangway)) != 0) {
                    winds++;
                }
            }
            return winds;
        }

        boolean isNearCoop(int gangway) {
            int near = Plan.roofAndNeighbours(Plan.lesserRoof(gangway))
                    | Plan.roofAndNeighbours(Plan.greaterRoof(gangway));
            return (coops & near) != 0;
        }

        int reasonNotToHang(int owner, int gangway) {
            int roofs = Plan.roofsOf(gangway);
            if (!isThere(gangway)) {
                return NO_GANGWAY;
            }
            if (hasLine(gangway)) {
                return LINE_THERE;
            }
            if ((keys[owner] & roofs) != roofs) {
                return NO_KEY;
            }
            if ((smokeBlown(windTo) & roofs) != 0) {
                return IN_SMOKE;
            }
            if (!isIn(truces, owner) && isNearCoop(gangway)) {
                return NEAR_COOP;
            }
            return ALLOWED;
        }

        int hangLine(int owner, int gangway) {
            int reason = reasonNotToHang(owner, gangway);
            if (reason != ALLOWED) {
                refused++;
                return reason;
            }
            hangers[gangway] = owner;
            soot[gangway] = 0;
            spots[gangway] = 0;
            hung++;
            return DONE + Integer.bitCount(allLines());
        }

        int takeLine(int owner, int gangway) {
            if (!hasLine(gangway)) {
                refused++;
                return NO_LINE;
            }
            if (hangers[gangway] != owner) {
                refused++;
                return LINE_OF_OTHER;
            }
            hangers[gangway] = NONE;
            taken++;
            return DONE + soot[gangway] + spots[gangway];
        }

        boolean standsAt(int owner, int gangway) {
            return isIn(Plan.roofsOf(gangway), places[owner]);
        }

        int reasonNotToWalk(int owner, int gangway, int toRoof) {
            if (!isThere(gangway)) {
                return NO_GANGWAY;
            }
            if (borne[gangway] < weights[owner]) {
                return TOO_WEAK;
            }
            if (hasLine(gangway) && hangers[gangway] != owner) {
                return LINE_IN_WAY;
            }
            if (!isIn(keys[owner], toRoof)) {
                return NO_KEY;
            }
            return ALLOWED;
        }

        int walkOver(int owner, int gangway) {
            int toRoof = Plan.otherRoof(gangway, places[owner]);
            int reason = reasonNotToWalk(owner, gangway, toRoof);
            if (reason != ALLOWED) {
                refused++;
                return reason;
            }
            places[owner] = toRoof;
            walks[owner]++;
            return DONE + toRoof;
        }

        void passDay() {
            dayNumber++;
            int smoke = smokeBlown(windTo);
            for (int gangway = 0; gangway < GANGWAYS; gangway++) {
                if (hasLine(gangway)) {
                    soilLine(gangway, smoke);
                }
            }
            lot = (421 * lot + 1663) % LOTS;
            if (lot % 4 == 0) {
                windTo = (windTo + 1) % DIRECTIONS;
            }
        }

        void soilLine(int gangway, int smoke) {
            int roofs = Plan.roofsOf(gangway);
            soot[gangway] += Integer.bitCount(smoke & roofs);
            if (!isIn(truces, hangers[gangway])) {
                spots[gangway] += Integer.bitCount(coops & roofs);
            }
        }

        int allLines() {
            int set = 0;
            for (int gangway = 0; gangway < GANGWAYS; gangway++) {
                if (hasLine(gangway)) {
                    set |= 1 << gangway;
                }
            }
            return set;
        }

        int cleanLines() {
            int set = 0;
            for (int gangway = 0; gangway < GANGWAYS; gangway++) {
                if (hasLine(gangway) && soot[gangway] == 0 && spots[gangway] == 0) {
                    set |= 1 << gangway;
                }
            }
            return set;
        }

        int linesOf(int owner) {
            int set = 0;
            for (int gangway = 0; gangway < GANGWAYS; gangway++) {
                if (hangers[gangway] == owner) {
                    set |= 1 << gangway;
                }
            }
            return set;
        }

        int linesSmokedBy(int to) {
            int smoke = smokeBlown(to);
            int number = 0;
            for (int gangway = 0; gangway < GANGWAYS; gangway++) {
                if (hasLine(gangway) && (smoke & Plan.roofsOf(gangway)) != 0) {
                    number++;
                }
            }
            return number;
        }

        int sumOverLines(int[] amounts) {
            int sum = 0;
            for (int gangway = 0; gangway < GANGWAYS && gangway < amounts.length; gangway++) {
                if (hasLine(gangway)) {
                    sum += amounts[gangway];
                }
            }
            return sum;
        }

        int standingGangways() {
            int set = 0;
            for (int gangway = 0; gangway < GANGWAYS; gangway++) {
                if (isThere(gangway)) {
                    set |= 1 << gangway;
                }
            }
            return set;
        }

        int ownersOn(int roof) {
            int set = 0;
            for (int owner = 0; owner < OWNERS; owner++) {
                if (places[owner] == roof) {
                    set |= 1 << owner;
                }
            }
            return set;
        }

        int walksOpenTo(int owner) {
            int number = 0;
            for (int gangway = 0; gangway < GANGWAYS; gangway++) {
                int toRoof = Plan.otherRoof(gangway, places[owner]);
                if (standsAt(owner, gangway) && reasonNotToWalk(owner, gangway, toRoof) == ALLOWED) {
                    number++;
                }
            }
            return number;
        }

        int hangingsOpenTo(int owner) {
            int number = 0;
            for (int gangway = 0; gangway < GANGWAYS; gangway++) {
                if (reasonNotToHang(owner, gangway) == ALLOWED) {
                    number++;
                }
            }
            return number;
        }

        int numberOfNow(int what) {
            switch (what) {
                case 0:
                    return dayNumber;
                case 1:
                    return windTo;
                case 2:
                    return Integer.bitCount(chimneys);
                case 3:
                    return Integer.bitCount(smokeBlown(windTo));
                case 4:
                    return Integer.bitCount(coops);
                case 5:
                    return Integer.bitCount(allLines());
                case 6:
                    return Integer.bitCount(cleanLines());
                case 7:
                    return sumOverLines(soot);
                case 8:
                    return sumOverLines(spots);
                default:
                    return linesSmokedBy(windTo);
            }
        }

        int numberSoFar(int what) {
            switch (what) {
                case 10:
                    return hung;
                case 11:
                    return taken;
                case 12:
                    return fallen;
                case 13:
                    return refused;
                case 14:
                    return smokeReach;
                default:
                    return lot;
            }
        }
    }

    /** Ways over the gangways of a city, with rows that every search uses again. */
    private static final class Ways {
        private final int[] groups = new int[ROOFS];
        private final int[] strengths = new int[ROOFS];

        int strongestByJoining(City city, int from, int to) {
            if (from == to) {
                return STRENGTH_OF_STAYING;
            }
            for (int roof = 0; roof < ROOFS; roof++) {
                groups[roof] = roof;
            }
            for (int strength = MOST_BORNE; strength > 0; strength--) {
                joinOver(city, strength);
                if (groups[from] == groups[to]) {
                    return strength;
                }
            }
            return NOT_FOUND;
        }

        private void joinOver(City city, int strength) {
            for (int gangway = 0; gangway < GANGWAYS; gangway++) {
                if (Plan.isGangway(gangway) && city.borne[gangway] == strength) {
                    rename(groups[Plan.greaterRoof(gangway)], groups[Plan.lesserRoof(gangway)]);
                }
            }
        }

        private void rename(int group, int newName) {
            for (int roof = 0; roof < ROOFS; roof++) {
                if (groups[roof] == group) {
                    groups[roof] = newName;
                }
            }
        }

        int strongestBySpreading(City city, int from, int to) {
            Arrays.fill(strengths, 0);
            strengths[from] = STRENGTH_OF_STAYING;
            boolean greater = true;
            // Each round settles one roof more at least, so there are never more rounds than roofs.
            for (int round = 0; round < ROOFS && greater; round++) {
                greater = spread(city);
            }
            return strengths[to] > 0 ? strengths[to] : NOT_FOUND;
        }

        private boolean spread(City city) {
            boolean greater = false;
            for (int gangway = 0; gangway < GANGWAYS; gangway++) {
                if (Plan.isGangway(gangway)) {
                    int lesser = Plan.lesserRoof(gangway);
                    int other = Plan.greaterRoof(gangway);
                    boolean there = raise(other, Math.min(strengths[lesser], city.borne[gangway]));
                    boolean back = raise(lesser, Math.min(strengths[other], city.borne[gangway]));
                    greater = greater || there || back;
                }
            }
            return greater;
        }

        private boolean raise(int roof, int strength) {
            if (strength <= strengths[roof]) {
                return false;
            }
            strengths[roof] = strength;
            return true;
        }

        int roofsFrom(City city, int roof) {
            int come = 1 << roof;
            for (int round = 0; round < ROOFS; round++) {
                for (int gangway = 0; gangway < GANGWAYS; gangway++) {
                    int roofs = Plan.roofsOf(gangway);
                    if (city.isThere(gangway) && (come & roofs) != 0) {
                        come |= roofs;
                    }
                }
            }
            return come;
        }

        int fewestWalks(City city, int owner, int roof) {
            int come = 1 << city.places[owner];
            for (int walks = 0; walks < ROOFS; walks++) {
                if (isIn(come, roof)) {
                    return walks;
                }
                come = oneWalkFurther(city, owner, come);
            }
            return NOT_FOUND;
        }

        private int oneWalkFurther(City city, int owner, int come) {
            int further = come;
            for (int gangway = 0; gangway < GANGWAYS; gangway++) {
                int lesser = Plan.lesserRoof(gangway);
                int other = Plan.greaterRoof(gangway);
                if (isIn(come, lesser) && city.reasonNotToWalk(owner, gangway, other) == ALLOWED) {
                    further |= 1 << other;
                }
                if (isIn(come, other) && city.reasonNotToWalk(owner, gangway, lesser) == ALLOWED) {
                    further |= 1 << lesser;
                }
            }
            return further;
        }
    }

    /** The states before the latest changes, the newest first; its cities are used again and again. */
    private static final class History {
        private final City[] states = new City[HISTORY_LIMIT];
        int size;

        History() {
            for (int index = 0; index < HISTORY_LIMIT; index++) {
                states[index] = new City();
            }
        }

        void push(City now) {
            City oldest = states[HISTORY_LIMIT - 1];
            for (int index = HISTORY_LIMIT - 1; index > 0; index--) {
                states[index] = states[index - 1];
            }
            states[0] = oldest;
            if (oldest != null) {
                oldest.copyFrom(now);
            }
            size = Math.min(size + 1, HISTORY_LIMIT);
        }

        void popInto(City now) {
            City newest = states[0];
            for (int index = 1; index < HISTORY_LIMIT; index++) {
                states[index - 1] = states[index];
            }
            states[HISTORY_LIMIT - 1] = newest;
            if (newest != null) {
                now.copyFrom(newest);
            }
            size = Math.max(size - 1, 0);
        }
    }

    /** The text of the orders. */
    private static final class Pad {
        private final char[] signs = new char[PAD_LIMIT];
        int length;

        void add(char sign) {
            if (isWithin(length, 0, PAD_LIMIT - 1)) {
                signs[length] = sign;
                length++;
            }
        }

        // Behind the end of the text stands a sign that no order has.
        char signAt(int position) {
            return isWithin(position, 0, PAD_LIMIT - 1) && position < length ? signs[position] : ' ';
        }
    }

    /** Reads the orders of a pad, one after the other. */
    private static final class OrderReader {
        private final Pad text;
        private int position;
        int start;
        char letter;
        int orderOwner;
        int orderNumber;

        OrderReader(Pad text) {
            this.text = text;
        }

        void rewind() {
            position = 0;
        }

        int firstFault() {
            rewind();
            for (int orders = 0; orders <= PAD_LIMIT; orders++) {
                if (!readOrder()) {
                    return position;
                }
                if (position == text.length) {
                    return NOT_FOUND;
                }
                if (!readSign(',')) {
                    return position;
                }
            }
            return position;
        }

        boolean readNext() {
            if (position >= text.length) {
                return false;
            }
            boolean whole = readOrder();
            readSign(',');
            return whole;
        }

        // If there is no whole order, the position is that of the first wrong or missing sign.
        private boolean readOrder() {
            start = position;
            letter = text.signAt(position);
            switch (letter) {
                case 'h':
                case 't':
                case 'w':
                    position++;
                    return readOwner() && readSign(':') && readNumber(true);
                case 'c':
                    position++;
                    return readNumber(false);
                case 'd':
                    position++;
                    return true;
                default:
                    return false;
            }
        }

        private boolean readSign(char sign) {
            if (text.signAt(position) != sign) {
                return false;
            }
            position++;
            return true;
        }

        private boolean readOwner() {
            orderOwner = digitAt(position);
            if (!isOwner(orderOwner)) {
                return false;
            }
            position++;
            return true;
        }

        // A digit that is not allowed alone begins no longer number either: 3 and 7 are too great for that.
        private boolean readNumber(boolean ofGangway) {
            int first = digitAt(position);
            if (!isAllowed(first, ofGangway)) {
                return false;
            }
            position++;
            orderNumber = first;
            int second = digitAt(position);
            if (first != 0 && second != NONE && isAllowed(10 * first + second, ofGangway)) {
                position++;
                orderNumber = 10 * first + second;
            }
            return true;
        }

        private static boolean isAllowed(int number, boolean ofGangway) {
            return ofGangway ? Plan.isGangway(number) : isRoof(number);
        }

        private int digitAt(int at) {
            char sign = text.signAt(at);
            return sign >= '0' && sign <= '9' ? sign - '0' : NONE;
        }
    }
}
