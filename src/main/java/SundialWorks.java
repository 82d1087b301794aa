/** A workshop for sundials. What every call promises stands in ../shared/DOC.md. */
public final class SundialWorks {
    public static final int INVALID_ARGUMENT = -100001;
    public static final int ILLEGAL_STATE = -100002;
    public static final int CAPACITY_EXCEEDED = -100003;
    public static final int NONE = -100009;

    private static final int WALLS = 6;
    private static final int COMMISSIONS = 10;
    private static final int MONTHS = 12;
    private static final int SLOTS = 2;
    private static final int HISTORY = 5;
    private static final int TEXT = 140;

    private static final int FARTHEST_CORRECTION = 20;
    private static final int FARTHEST_DECLINATION = 60;
    private static final int FARTHEST_LONGITUDE = 60;
    private static final int FARTHEST_OFFSET = 3000;
    private static final int FARTHEST_TIME = 360;
    private static final int LEAST_LATITUDE = 10;
    private static final int GREATEST_LATITUDE = 70;
    private static final int LEAST_SIZE = 10;
    private static final int GREATEST_SIZE = 60;
    private static final int GREATEST_CHARACTER = 255;
    private static final int NO_WALL = -1;
    private static final int NO_MONTH = -1;
    private static final int HORIZONTAL = 100;

    private static final int RIGHT_ANGLE = 360;
    private static final int HALF_TURN = 720;
    private static final int HOUR = 60;

    private static final int TOLERANCE = 0;
    private static final int LEAST_LINES = 1;
    private static final int BOUND = 2;
    private static final int MELT = 3;
    private static final int SETTINGS = 4;
    private static final int[] LEAST_VALUES = {0, 1, 0, 1};
    private static final int[] GREATEST_VALUES = {10, 13, 60, 100};
    private static final int[] FIRST_VALUES = {2, 5, 10, 20};

    private static final int ASKED = 0;
    private static final int ACCEPTED = 1;
    private static final int CAST = 2;
    private static final int DELIVERED = 3;
    private static final int REFUSED = 4;

    private static final int NO_REASON = 0;
    private static final int NO_DIAL = 1;
    private static final int FEW_LINES = 2;
    private static final int TOO_FAR_APART = 3;
    private static final int TOO_HEAVY = 4;

    private static final int ADD_WALL = 0;
    private static final int MEASURE = 1;
    private static final int FLAT = 2;
    private static final int UPRIGHT = 3;
    private static final int DECIDE = 4;
    private static final int CAST_MELT = 5;
    private static final int DELIVER = 6;
    private static final int COMMANDS = 7;
    private static final int[] NUMBERS_OF_COMMANDS = {0, 2, 2, 3, 1, 0, 1};
    private static final int NOT_ALLOWED = -1;
    private static final int FAILED = -1000;

    private final State state = new State();
    private final History history = new History();
    private final Program program = new Program();
    private final Dial dial = new Dial();
    private final Shop shop = state.shop;

    public SundialWorks() {
    }

    // ---- settings and walls

    public int setCorrection(int month, int minutes) {
        history.mark(state);
        return recorded(shop.changeCorrection(month, minutes));
    }

    public int set(int what, int value) {
        history.mark(state);
        return recorded(shop.changeSetting(what, value));
    }

    public int addWall() {
        history.mark(state);
        return recorded(shop.openWall());
    }

    public int measure(int wall, int degrees) {
        history.mark(state);
        return recorded(shop.measureWall(wall, degrees));
    }

    // ---- commissions

    public int ask(int latitude, int wall, int size, int longitude) {
        history.mark(state);
        return recorded(shop.openCommission(latitude, wall, size, longitude));
    }

    public int decide(int commission) {
        history.mark(state);
        return recorded(shop.conclude(commission, judge(commission)));
    }

    public int askAgain(int commission) {
        history.mark(state);
        return recorded(shop.reopen(commission, judge(commission)));
    }

    public int cast() {
        history.mark(state);
        return recorded(shop.castMelt());
    }

    public int deliver(int commission) {
        history.mark(state);
        return recorded(shop.handOver(commission));
    }

    // ---- snapshots

    public int take(int slot) {
        history.mark(state);
        return recorded(state.keepSnapshot(slot));
    }

    public int restore(int slot) {
        history.mark(state);
        return recorded(state.fetchSnapshot(slot));
    }

    public int undo() {
        if (history.kept == 0) {
            return ILLEGAL_STATE;
        }
        history.stepBack(state);
        return history.kept;
    }

    // ---- programs

    public int append(int character) {
        return program.add(character);
    }

    public int clearText() {
        return program.empty();
    }

    public int run() {
        history.mark(state);
        program.rewind();
        int commands = 0;
        // Each command takes a character at least, so that the text ends before the bound.
        while (commands < TEXT && program.advance()) {
            int place = program.tokenStart;
            int command = program.parseCommand();
            if (command == NOT_ALLOWED) {
                return failedAt(program.tokenStart);
            }
            if (isError(perform(command))) {
                return failedAt(place);
            }
            commands++;
        }
        history.keepMarked();
        program.empty();
        return commands;
    }

    // ---- looking

    public int count(int what) {
        switch (what) {
            case 0: return shop.wallCount;
            case 1: return shop.knownWalls();
            case 2: return shop.commissionCount;
            case 3: case 4: case 5: case 6: case 7: return shop.commissionsInState(what - 3);
            case 8: return shop.castings;
            case 9: return shop.kilograms;
            case 10: return state.snapshots();
            case 11: return history.kept;
            case 12: return program.length;
            case 13: case 14: case 15: case 16: return shop.settings[what - 13];
            default: return INVALID_ARGUMENT;
        }
    }

    public int wall(int wall, int what) {
        if (!shop.hasWall(wall)) {
            return INVALID_ARGUMENT;
        }
        switch (what) {
            case 0: return shop.walls[wall].latest;
            case 1: return shop.walls[wall].earlier;
            case 2: return shop.declinationOfWall(wall);
            case 3: return shop.commissionsForWall(wall);
            default: return INVALID_ARGUMENT;
        }
    }

    public int commission(int commission, int what) {
        if (!shop.hasCommission(commission)) {
            return INVALID_ARGUMENT;
        }
        Commission asked = shop.commissions[commission];
        switch (what) {
            case 0: return asked.latitude;
            case 1: return asked.wall;
            case 2: return asked.size;
            case 3: return asked.longitude;
            case 4: return asked.state;
            case 5: return shop.declinationOfDial(commission);
            case 6: return asked.weight();
            case 7: return asked.casting;
            case 8: return asked.refusal;
            default: return INVALID_ARGUMENT;
        }
    }

    public int correction(int month) {
        if (!isWithin(month, 0, MONTHS - 1)) {
            return INVALID_ARGUMENT;
        }
        return shop.corrections[month];
    }

    // ---- dials

    public int sine(int angle) {
        if (!isWithin(angle, -HALF_TURN, HALF_TURN)) {
            return INVALID_ARGUMENT;
        }
        return sineOf(angle);
    }

    public int offset(int commission, int time) {
        if (!shop.hasCommission(commission) || !isWithin(time, -FARTHEST_TIME, FARTHEST_TIME)) {
            return INVALID_ARGUMENT;
        }
        if (!layDial(commission)) {
            return ILLEGAL_STATE;
        }
        return dial.offsetAt(time);
    }

    public int lines(int commission, int what) {
        if (!shop.hasCommission(commission) || !isWithin(what, 0, 2)) {
            return INVALID_ARGUMENT;
        }
        if (!layDial(commission)) {
            return ILLEGAL_STATE;
        }
        switch (what) {
            case 0: return dial.countLines();
            case 1: return dial.firstLine();
            default: return dial.lastLine();
        }
    }

    public int read(int commission, int offset, int by, int month) {
        if (!shop.hasCommission(commission) || !isWithin(offset, -FARTHEST_OFFSET, FARTHEST_OFFSET)
                || !isWithin(by, 0, 1) || !isWithin(month, NO_MONTH, MONTHS - 1)) {
            return INVALID_ARGUMENT;
        }
        if (!layDial(commission)) {
            return ILLEGAL_STATE;
        }
        int reading = by == 0 ? dial.readingByLines(offset) : dial.readingByShadow(offset);
        if (reading == NONE || month == NO_MONTH) {
            return reading;
        }
        return reading + shop.corrections[month] + shop.commissions[commission].longitude;
    }

    public int apart(int commission, int what) {
        if (!shop.hasCommission(commission) || !isWithin(what, 0, 1)) {
            return INVALID_ARGUMENT;
        }
        if (!layDial(commission)) {
            return ILLEGAL_STATE;
        }
        dial.compareReadings();
        return what == 0 ? dial.farthest : dial.farthestTime;
    }

    public int reason(int commission) {
        return judge(commission);
    }

    public int bestLatitude(int declination) {
        boolean upright = declination != HORIZONTAL;
        if (upright && !isWithin(declination, -FARTHEST_DECLINATION, FARTHEST_DECLINATION)) {
            return INVALID_ARGUMENT;
        }
        int best = NONE;
        int least = 0;
        for (int latitude = LEAST_LATITUDE; latitude <= GREATEST_LATITUDE; latitude++) {
            dial.lay(upright, latitude, upright ? declination : 0);
            dial.compareReadings();
            if (best == NONE || dial.farthest < least) {
                least = dial.farthest;
                best = latitude;
            }
        }
        return best;
    }

    public int melts() {
        return shop.meltsNeeded();
    }

    // ---- what several calls share

    /** Puts the marked state into the history if an action with this answer did succeed. */
    private int recorded(int answer) {
        if (!isError(answer)) {
            history.keepMarked();
        }
        return answer;
    }

    private int failedAt(int place) {
        history.returnToMarked(state);
        return FAILED - place;
    }

    /** Runs a command that was read, without a record of its own in the history. */
    private int perform(int command) {
        int first = program.numbers[0];
        int second = program.numbers[1];
        int third = program.numbers[2];
        switch (command) {
            case ADD_WALL: return shop.openWall();
            case MEASURE: return shop.measureWall(first, second);
            case FLAT: return shop.openCommission(first, NO_WALL, second, 0);
            case UPRIGHT: return shop.openCommission(first, second, third, 0);
            case DECIDE: return shop.conclude(first, judge(first));
            case CAST_MELT: return shop.castMelt();
            case DELIVER: return shop.handOver(first);
            default: return INVALID_ARGUMENT;
        }
    }

    /** The first reason to refuse a commission now. */
    private int judge(int commission) {
        if (!shop.hasCommission(commission)) {
            return INVALID_ARGUMENT;
        }
        if (!layDial(commission)) {
            return NO_DIAL;
        }
        if (dial.countLines() < shop.settings[LEAST_LINES]) {
            return FEW_LINES;
        }
        dial.compareReadings();
        if (dial.farthest > shop.settings[BOUND]) {
            return TOO_FAR_APART;
        }
        if (shop.commissions[commission].weight() > shop.settings[MELT]) {
            return TOO_HEAVY;
        }
        return NO_REASON;
    }

    /** Lays the dial of a commission out; false if there is no dial. */
    private boolean layDial(int commission) {
        int declination = shop.declinationOfDial(commission);
        if (declination == NONE) {
            return false;
        }
        Commission asked = shop.commissions[commission];
        dial.lay(asked.wall != NO_WALL, asked.latitude, declination);
        return true;
    }

    private static boolean isError(int answer) {
        return answer == INVALID_ARGUMENT || answer == ILLEGAL_STATE || answer == CAPACITY_EXCEEDED;
    }

    private static boolean isWithin(int value, int least, int greatest) {
        return value >= least && value <= greatest;
    }

    /** The nearest whole number to a quotient, the greater one of two that are as near; 0 for no divisor above 0. */
    private static long rounded(long dividend, long divisor) {
        if (divisor <= 0) {
            return 0;
        }
        long twice = 2 * dividend + divisor;
        long whole = twice / (2 * divisor);
        // Java's division goes towards 0, which is the wrong way below 0.
        return twice % (2 * divisor) < 0 ? whole - 1 : whole;
    }

    private static int sineOf(int angle) {
        long size = Math.abs(angle);
        long product = size * (HALF_TURN - size);
        int sine = (int) rounded(40000 * product, 648000 - product);
        return angle < 0 ? -sine : sine;
    }

    /** The offsets of one dial at all times. Every question lays it out anew, so it is no part of the state. */
    private static final class Dial {
        final int[] offsets = new int[2 * FARTHEST_TIME + 1];
        int farthest;
        int farthestTime;

        void lay(boolean upright, int latitude, int declination) {
            long sineOfLatitude = sineOf(4 * latitude);
            long sideBySine = sineOfLatitude;
            long frontByCosine = 10000;
            long frontBySine = 0;
            if (upright) {
                sideBySine = 10000L * sineOf(RIGHT_ANGLE + 4 * latitude);
                frontByCosine = 10000L * sineOf(RIGHT_ANGLE + 4 * declination);
                frontBySine = sineOf(4 * declination) * sineOfLatitude;
            }
            for (int time = -FARTHEST_TIME; time <= FARTHEST_TIME; time++) {
                long sine = sineOf(time);
                long cosine = sineOf(RIGHT_ANGLE + time);
                offsets[time + FARTHEST_TIME] =
                        offsetOfShadow(sideBySine * sine, frontByCosine * cosine + frontBySine * sine);
            }
        }

        /** NONE where the shadow is not on the dial. */
        static int offsetOfShadow(long side, long front) {
            if (front <= 0) {
                return NONE;
            }
            long offset = rounded(1000 * side, front);
            return offset < -FARTHEST_OFFSET || offset > FARTHEST_OFFSET ? NONE : (int) offset;
        }

        /** NONE where the time is not on the dial. */
        int offsetAt(int time) {
            if (!isWithin(time, -FARTHEST_TIME, FARTHEST_TIME)) {
                return NONE;
            }
            return offsets[time + FARTHEST_TIME];
        }

        int countLines() {
            int found = 0;
            for (int hour = -FARTHEST_TIME; hour <= FARTHEST_TIME; hour += HOUR) {
                if (offsetAt(hour) != NONE) {
                    found++;
                }
            }
            return found;
        }

        int firstLine() {
            for (int hour = -FARTHEST_TIME; hour <= FARTHEST_TIME; hour += HOUR) {
                if (offsetAt(hour) != NONE) {
                    return hour;
                }
            }
            return NONE;
        }

        int lastLine() {
            for (int hour = FARTHEST_TIME; hour >= -FARTHEST_TIME; hour -= HOUR) {
                if (offsetAt(hour) != NONE) {
                    return hour;
                }
            }
            return NONE;
        }

        int readingByLines(int offset) {
            for (int hour = -FARTHEST_TIME; hour < FARTHEST_TIME; hour += HOUR) {
                int from = offsetAt(hour);
                int to = offsetAt(hour + HOUR);
                if (from == NONE || to == NONE || from > offset || to < offset) {
                    continue;
                }
                return from == to ? hour : hour + (int) rounded(HOUR * (offset - from), to - from);
            }
            return NONE;
        }

        int readingByShadow(int offset) {
            int nearest = NONE;
            int least = 0;
            for (int time = -FARTHEST_TIME; time <= FARTHEST_TIME; time++) {
                int there = offsetAt(time);
                if (there == NONE) {
                    continue;
                }
                int difference = Math.abs(there - offset);
                if (nearest == NONE || difference < least) {
                    least = difference;
                    nearest = time;
                }
            }
            return nearest;
        }

        /** Finds how far the dial is apart, and the first time at which it is so (NONE if no time counts). */
        void compareReadings() {
            farthest = 0;
            farthestTime = NONE;
            for (int time = -FARTHEST_TIME; time <= FARTHEST_TIME; time++) {
                int offset = offsetAt(time);
                int reading = offset == NONE ? NONE : readingByLines(offset);
                if (reading == NONE) {
                    continue;
                }
                int difference = Math.abs(time - reading);
                if (farthestTime == NONE || difference > farthest) {
                    farthest = difference;
                    farthestTime = time;
                }
            }
        }
    }

    private static final class Wall {
        int latest = NONE;
        int earlier = NONE;

        void copyFrom(Wall other) {
            latest = other.latest;
            earlier = other.earlier;
        }

        boolean isKnown(int tolerance) {
            return latest != NONE && earlier != NONE && Math.abs(latest - earlier) <= tolerance;
        }
    }

    private static final class Commission {
        int latitude;
        int wall;
        int size;
        int longitude;
        int state;
        int keptDeclination;
        int casting;
        int refusal;

        void copyFrom(Commission other) {
            latitude = other.latitude;
            wall = other.wall;
            size = other.size;
            longitude = other.longitude;
            state = other.state;
            keptDeclination = other.keptDeclination;
            casting = other.casting;
            refusal = other.refusal;
        }

        int weight() {
            return (int) rounded(size * size, 100);
        }

        boolean isByWallNow() {
            return state == ASKED || state == REFUSED;
        }
    }

    /** What a snapshot keeps. What changes it answers as the public call does, and changes nothing in an error. */
    private static final class Shop {
        final Wall[] walls = new Wall[WALLS];
        final int[] corrections = new int[MONTHS];
        final int[] settings = new int[SETTINGS];
        final Commission[] commissions = new Commission[COMMISSIONS];
        int wallCount;
        int commissionCount;
        int castings;
        int kilograms;

        Shop() {
            for (int i = 0; i < WALLS; i++) {
                walls[i] = new Wall();
            }
            for (int i = 0; i < COMMISSIONS; i++) {
                commissions[i] = new Commission();
            }
            for (int i = 0; i < SETTINGS; i++) {
                settings[i] = FIRST_VALUES[i];
            }
        }

        void copyFrom(Shop other) {
            for (int i = 0; i < WALLS; i++) {
                walls[i].copyFrom(other.walls[i]);
            }
            for (int i = 0; i < COMMISSIONS; i++) {
                commissions[i].copyFrom(other.commissions[i]);
            }
            System.arraycopy(other.corrections, 0, corrections, 0, MONTHS);
            System.arraycopy(other.settings, 0, settings, 0, SETTINGS);
            wallCount = other.wallCount;
            commissionCount = other.commissionCount;
            castings = other.castings;
            kilograms = other.kilograms;
        }

        boolean hasWall(int wall) {
            return wall >= 0 && wall < wallCount;
        }

        boolean hasCommission(int commission) {
            return commission >= 0 && commission < commissionCount;
        }

        int changeCorrection(int month, int minutes) {
            if (!isWithin(month, 0, MONTHS - 1) || !isWithin(minutes, -FARTHEST_CORRECTION, FARTHEST_CORRECTION)) {
                return INVALID_ARGUMENT;
            }
            int previous = corrections[month];
            corrections[month] = minutes;
            return previous;
        }

        int changeSetting(int what, int value) {
            if (!isWithin(what, 0, SETTINGS - 1) || !isWithin(value, LEAST_VALUES[what], GREATEST_VALUES[what])) {
                return INVALID_ARGUMENT;
            }
            int previous = settings[what];
            settings[what] = value;
            return previous;
        }

        int openWall() {
            if (wallCount >= WALLS) {
                return CAPACITY_EXCEEDED;
            }
            Wall added = walls[wallCount];
            added.latest = NONE;
            added.earlier = NONE;
            wallCount++;
            return wallCount - 1;
        }

        int measureWall(int wall, int degrees) {
            if (!hasWall(wall) || !isWithin(degrees, -FARTHEST_DECLINATION, FARTHEST_DECLINATION)) {
                return INVALID_ARGUMENT;
            }
            Wall measured = walls[wall];
            measured.earlier = measured.latest;
            measured.latest = degrees;
            return measured.isKnown(settings[TOLERANCE]) ? 1 : 0;
        }

        int openCommission(int latitude, int wall, int size, int longitude) {
            if (!isWithin(latitude, LEAST_LATITUDE, GREATEST_LATITUDE)
                    || wall != NO_WALL && !hasWall(wall)
                    || !isWithin(size, LEAST_SIZE, GREATEST_SIZE)
                    || !isWithin(longitude, -FARTHEST_LONGITUDE, FARTHEST_LONGITUDE)) {
                return INVALID_ARGUMENT;
            }
            if (commissionCount >= COMMISSIONS) {
                return CAPACITY_EXCEEDED;
            }
            Commission asked = commissions[commissionCount];
            asked.latitude = latitude;
            asked.wall = wall;
            asked.size = size;
            asked.longitude = longitude;
            asked.state = ASKED;
            asked.keptDeclination = NONE;
            asked.casting = NONE;
            asked.refusal = NO_REASON;
            commissionCount++;
            return commissionCount - 1;
        }

        /** Accepts or refuses, for the reason that applies now. */
        int conclude(int commission, int reason) {
            if (!hasCommission(commission)) {
                return INVALID_ARGUMENT;
            }
            Commission asked = commissions[commission];
            if (asked.state != ASKED) {
                return ILLEGAL_STATE;
            }
            if (reason == NO_REASON) {
                asked.keptDeclination = declinationOfDial(commission);
                asked.state = ACCEPTED;
            } else {
                asked.refusal = reason;
                asked.state = REFUSED;
            }
            return reason;
        }

        /** Asks again, and answers the reason that applies now. */
        int reopen(int commission, int reason) {
            if (!hasCommission(commission)) {
                return INVALID_ARGUMENT;
            }
            if (commissions[commission].state != REFUSED) {
                return ILLEGAL_STATE;
            }
            commissions[commission].state = ASKED;
            return reason;
        }

        int castMelt() {
            int chosen = nextMelt(acceptedOnes());
            if (chosen == 0) {
                return ILLEGAL_STATE;
            }
            for (int i = 0; i < commissionCount; i++) {
                if ((chosen & (1 << i)) != 0) {
                    commissions[i].state = CAST;
                    commissions[i].casting = castings;
                    kilograms += commissions[i].weight();
                }
            }
            castings++;
            return Integer.bitCount(chosen);
        }

        int meltsNeeded() {
            int left = acceptedOnes();
            // Each melt takes one commission at least.
            for (int melts = 0; melts <= COMMISSIONS; melts++) {
                if (left == 0) {
                    return melts;
                }
                int chosen = nextMelt(left);
                if (chosen == 0) {
                    return NONE;
                }
                left &= ~chosen;
            }
            return NONE;
        }

        /** A bit for each commission that is accepted. */
        int acceptedOnes() {
            int accepted = 0;
            for (int i = 0; i < commissionCount; i++) {
                if (commissions[i].state == ACCEPTED) {
                    accepted |= 1 << i;
                }
            }
            return accepted;
        }

        /** Of the commissions whose bits are set, those that one melt casts. */
        int nextMelt(int waiting) {
            int chosen = 0;
            int sum = 0;
            for (int i = 0; i < commissionCount; i++) {
                int weight = commissions[i].weight();
                if ((waiting & (1 << i)) != 0 && sum + weight <= settings[MELT]) {
                    chosen |= 1 << i;
                    sum += weight;
                }
            }
            return chosen;
        }

        int handOver(int commission) {
            if (!hasCommission(commission)) {
                return INVALID_ARGUMENT;
            }
            if (commissions[commission].state != CAST) {
                return ILLEGAL_STATE;
            }
            commissions[commission].state = DELIVERED;
            return commissionsInState(DELIVERED);
        }

        int knownWalls() {
            int found = 0;
            for (int i = 0; i < wallCount; i++) {
                if (walls[i].isKnown(settings[TOLERANCE])) {
                    found++;
                }
            }
            return found;
        }

        int commissionsInState(int wanted) {
            int found = 0;
            for (int i = 0; i < commissionCount; i++) {
                if (commissions[i].state == wanted) {
                    found++;
                }
            }
            return found;
        }

        int commissionsForWall(int wall) {
            int found = 0;
            for (int i = 0; i < commissionCount; i++) {
                if (commissions[i].wall == wall) {
                    found++;
                }
            }
            return found;
        }

        /** NONE if the wall is not known. */
        int declinationOfWall(int wall) {
            if (!hasWall(wall) || !walls[wall].isKnown(settings[TOLERANCE])) {
                return NONE;
            }
            return (int) rounded(walls[wall].latest + walls[wall].earlier, 2);
        }

        /** 0 for a horizontal dial, NONE if there is no dial. */
        int declinationOfDial(int commission) {
            if (!hasCommission(commission)) {
                return NONE;
            }
            Commission asked = commissions[commission];
            if (asked.wall == NO_WALL) {
                return 0;
            }
            return asked.isByWallNow() ? declinationOfWall(asked.wall) : asked.keptDeclination;
        }
    }

    /** What the history keeps: the shop and its snapshots. */
    private static final class State {
        final Shop shop = new Shop();
        final Shop[] slots = new Shop[SLOTS];
        final boolean[] filled = new boolean[SLOTS];

        State() {
            for (int i = 0; i < SLOTS; i++) {
                slots[i] = new Shop();
            }
        }

        void copyFrom(State other) {
            shop.copyFrom(other.shop);
            for (int i = 0; i < SLOTS; i++) {
                slots[i].copyFrom(other.slots[i]);
                filled[i] = other.filled[i];
            }
        }

        int keepSnapshot(int slot) {
            if (!isWithin(slot, 0, SLOTS - 1)) {
                return INVALID_ARGUMENT;
            }
            slots[slot].copyFrom(shop);
            filled[slot] = true;
            return shop.commissionCount;
        }

        int fetchSnapshot(int slot) {
            if (!isWithin(slot, 0, SLOTS - 1)) {
                return INVALID_ARGUMENT;
            }
            if (!filled[slot]) {
                return ILLEGAL_STATE;
            }
            shop.copyFrom(slots[slot]);
            return shop.commissionCount;
        }

        int snapshots() {
            int found = 0;
            for (int i = 0; i < SLOTS; i++) {
                if (filled[i]) {
                    found++;
                }
            }
            return found;
        }
    }

    /**
     * The states before the latest actions, in a ring. One place more than the history keeps is free at any time:
     * the state is marked there before it is known whether the call succeeds.
     */
    private static final class History {
        final State[] ring = new State[HISTORY + 1];
        int free;
        int kept;

        History() {
            for (int i = 0; i <= HISTORY; i++) {
                ring[i] = new State();
            }
        }

        void mark(State state) {
            ring[free].copyFrom(state);
        }

        void keepMarked() {
            free = (free + 1) % (HISTORY + 1);
            kept = Math.min(kept + 1, HISTORY);
        }

        void returnToMarked(State state) {
            state.copyFrom(ring[free]);
        }

        void stepBack(State state) {
            if (kept > 0) {
                free = (free + HISTORY) % (HISTORY + 1);
                kept--;
                returnToMarked(state);
            }
        }
    }

    /** The text, and the token of it that is being read: from tokenStart to before tokenEnd. */
    private static final class Program {
        final char[] text = new char[TEXT];
        final int[] numbers = new int[3];
        int length;
        int tokenStart;
        int tokenEnd;

        int add(int character) {
            if (!isWithin(character, 1, GREATEST_CHARACTER)) {
                return INVALID_ARGUMENT;
            }
            if (length >= TEXT) {
                return CAPACITY_EXCEEDED;
            }
            text[length] = (char) character;
            length++;
            return length;
        }

        int empty() {
            int previous = length;
            length = 0;
            return previous;
        }

        void rewind() {
            tokenStart = 0;
            tokenEnd = 0;
        }

        /** Goes to the next token; at the end of the text to an empty one there, and answers false. */
        boolean advance() {
            tokenStart = tokenEnd;
            while (tokenStart < length && text[tokenStart] == ' ') {
                tokenStart++;
            }
            tokenEnd = tokenStart;
            if (tokenStart >= length) {
                return false;
            }
            int kind = kindOf(text[tokenStart]);
            tokenEnd++;
            while (kind != 0 && tokenEnd < length && kindOf(text[tokenEnd]) == kind) {
                tokenEnd++;
            }
            return true;
        }

        /** 1 for letters and 2 for digits, which make runs, 0 for what stands alone. */
        static int kindOf(char character) {
            if (character >= 'a' && character <= 'z') {
                return 1;
            }
            return character >= '0' && character <= '9' ? 2 : 0;
        }

        /** Reads a command from its word, the token, to its ";". If it is not allowed, the token is then where it fails. */
        int parseCommand() {
            int command = commandOfToken();
            if (command == NOT_ALLOWED) {
                return NOT_ALLOWED;
            }
            for (int i = 0; i < NUMBERS_OF_COMMANDS[command]; i++) {
                advance();
                boolean below = command == MEASURE && i == 1 && tokenIs("-");
                if (below) {
                    advance();
                }
                int number = numberOfToken();
                if (number == NOT_ALLOWED) {
                    return NOT_ALLOWED;
                }
                numbers[i] = below ? -number : number;
            }
            advance();
            return tokenIs(";") ? command : NOT_ALLOWED;
        }

        int commandOfToken() {
            for (int command = 0; command < COMMANDS; command++) {
                if (tokenIs(wordOf(command))) {
                    return command;
                }
            }
            return NOT_ALLOWED;
        }

        static String wordOf(int command) {
            switch (command) {
                case ADD_WALL: return "wall";
                case MEASURE: return "measure";
                case FLAT: return "flat";
                case UPRIGHT: return "upright";
                case DECIDE: return "decide";
                case CAST_MELT: return "cast";
                case DELIVER: return "deliver";
                default: return "";
            }
        }

        boolean tokenIs(String wanted) {
            if (tokenEnd - tokenStart != wanted.length()) {
                return false;
            }
            for (int i = 0; i < wanted.length(); i++) {
                if (text[tokenStart + i] != wanted.charAt(i)) {
                    return false;
                }
            }
            return true;
        }

        int numberOfToken() {
            int digits = tokenEnd - tokenStart;
            if (digits < 1 || digits > 4 || digits > 1 && text[tokenStart] == '0') {
                return NOT_ALLOWED;
            }
            int number = 0;
            for (int i = tokenStart; i < tokenEnd; i++) {
                if (kindOf(text[i]) != 2) {
                    return NOT_ALLOWED;
                }
                number = 10 * number + (text[i] - '0');
            }
            return number;
        }
    }
}
