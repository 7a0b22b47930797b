/**
 * A dead reckoning calculator after the traverse board: pegs for the half hours of a watch, a current,
 * leeway and fixes. The promises it keeps are numbered in the document, ../shared/DOC.md.
 */
public final class TraverseBoard {
    public static final long OUT_OF_RANGE = -9000000000000000001L;
    public static final long NO_SUCH_PEG = -9000000000000000002L;
    public static final long NO_SUCH_MOMENT = -9000000000000000003L;
    public static final long FULL = -9000000000000000004L;
    public static final long INVALID_PEG = -9000000000000000005L;
    public static final long WRONG_STATE = -9000000000000000006L;
    public static final long NOTHING = -9000000000000000007L;

    private static final int POINTS = 32;
    private static final int MAX_PEGS = 48;
    private static final int MAX_SPEED = 200;
    private static final int MAX_LEEWAY = 2;
    private static final int MAX_DRIFT = 50;
    private static final int MAX_COORDINATE = 200000000;

    private static final int BUFFER_SIZE = 12;
    private static final int FIRST_CODE = 32;
    private static final int LAST_CODE = 126;
    private static final char BLANK = ' ';

    // Columns one wider than the longest name, so that a blank ends every name here as it does in the text of a peg.
    private static final int NAME_WIDTH = 5;
    private static final String NAMES =
        "N    NbE  NNE  NEbN NE   NEbE ENE  EbN  E    EbS  ESE  SEbE SE   SEbS SSE  SbE  S    SbW  SSW  SWbS SW   SWbW WSW  WbS  W    WbN  WNW  NWbW NW   NWbN NNW  NbW  ";

    private static final int[] SIN = {
        0, 1951, 3827, 5556, 7071, 8315, 9239, 9808,
        10000, 9808, 9239, 8315, 7071, 5556, 3827, 1951,
        0, -1951, -3827, -5556, -7071, -8315, -9239, -9808,
        -10000, -9808, -9239, -8315, -7071, -5556, -3827, -1951
    };

    // An axis is told by the points that turn the sine into its component: cos(p) is sin(p + 8).
    private static final int NORTH = 8;
    private static final int EAST = 0;

    private static final int NONE = -1;

    private static final long DIGEST_START = 1811L;

    private final int[] buffer = new int[BUFFER_SIZE];
    private int bufferLength;

    private int pegs;
    private final int[] points = new int[MAX_PEGS];
    private final int[] speeds = new int[MAX_PEGS];
    private final int[] leeways = new int[MAX_PEGS];
    private final boolean[] lost = new boolean[MAX_PEGS];

    private int set;
    private int drift;

    // There is one moment more than pegs. Beyond the last moment no fix is ever kept.
    private final boolean[] fixed = new boolean[MAX_PEGS + 1];
    private final int[] fixNorths = new int[MAX_PEGS + 1];
    private final int[] fixEasts = new int[MAX_PEGS + 1];

    public TraverseBoard() {
        fixed[0] = true;
    }

    // ---- pegs as text

    public long append(int ch) {
        if (!inRange(ch, FIRST_CODE, LAST_CODE)) {
            return OUT_OF_RANGE;
        }
        if (bufferLength >= BUFFER_SIZE) {
            return FULL;
        }
        buffer[bufferLength] = ch;
        bufferLength++;
        return bufferLength;
    }

    public long clearBuffer() {
        int before = bufferLength;
        bufferLength = 0;
        return before;
    }

    public long errorPosition() {
        int nameEnd = agreement(pointInBuffer());
        return blankEnds(nameEnd) ? speedEnd(nameEnd) : nameEnd;
    }

    public long addFromBuffer() {
        if (errorPosition() != bufferLength || !digitEnds(bufferLength)) {
            return INVALID_PEG;
        }
        if (pegs >= MAX_PEGS) {
            return FULL;
        }
        int point = pointInBuffer();
        int speed = number(agreement(point), bufferLength);
        bufferLength = 0;
        return putBehindLast(point, speed);
    }

    /** The point whose name the buffer follows farthest; a whole name with its blank leaves no other. */
    private int pointInBuffer() {
        int farthest = 0;
        for (int point = 1; point < POINTS; point++) {
            if (agreement(point) > agreement(farthest)) {
                farthest = point;
            }
        }
        return farthest;
    }

    /** How many characters at the start of the buffer follow the name of the point and the blank behind it. */
    private int agreement(int point) {
        int length = 0;
        while (length < bufferLength && length < NAME_WIDTH && !blankEnds(length)
                && buffer[length] == NAMES.charAt(NAME_WIDTH * point + length)) {
            length++;
        }
        return length;
    }

    private int speedEnd(int start) {
        int end = start;
        while (end < bufferLength && digitAllowed(start, end)) {
            end++;
        }
        return end;
    }

    private boolean digitAllowed(int start, int at) {
        if (!digitEnds(at + 1)) {
            return false;
        }
        return at == start || number(start, at) != 0 && number(start, at + 1) <= MAX_SPEED;
    }

    private int number(int start, int end) {
        int number = 0;
        for (int at = start; at < end; at++) {
            number = 10 * number + buffer[at] - '0';
        }
        return number;
    }

    private boolean blankEnds(int length) {
        return length > 0 && buffer[length - 1] == BLANK;
    }

    private boolean digitEnds(int length) {
        return length > 0 && inRange(buffer[length - 1], '0', '9');
    }

    // ---- pegs

    public long add(int point, int speed) {
        if (!isPoint(point) || !isSpeed(speed)) {
            return OUT_OF_RANGE;
        }
        if (pegs >= MAX_PEGS) {
            return FULL;
        }
        return putBehindLast(point, speed);
    }

    public long replace(int peg, int point, int speed) {
        if (!pegExists(peg)) {
            return NO_SUCH_PEG;
        }
        if (!isPoint(point) || !isSpeed(speed)) {
            return OUT_OF_RANGE;
        }
        boolean wasLost = lost[peg];
        put(peg, point, speed);
        return wasLost ? 1 : 0;
    }

    public long removeLast() {
        if (pegs <= 0) {
            return NOTHING;
        }
        fixed[pegs] = false;
        pegs--;
        return pegs;
    }

    public long lose(int peg) {
        if (!pegExists(peg)) {
            return NO_SUCH_PEG;
        }
        if (lost[peg]) {
            return WRONG_STATE;
        }
        lost[peg] = true;
        return lostCount(0, pegs);
    }

    public long setLeeway(int peg, int leeway) {
        if (!pegExists(peg)) {
            return NO_SUCH_PEG;
        }
        if (!inRange(leeway, -MAX_LEEWAY, MAX_LEEWAY)) {
            return OUT_OF_RANGE;
        }
        int before = leeways[peg];
        leeways[peg] = leeway;
        return before;
    }

    public long setCurrent(int set, int drift) {
        if (!isPoint(set) || !inRange(drift, 0, MAX_DRIFT)) {
            return OUT_OF_RANGE;
        }
        int before = this.drift;
        this.set = set;
        this.drift = drift;
        return before;
    }

    public long pegCount() {
        return pegs;
    }

    public long pointOf(int peg) {
        if (!pegExists(peg)) {
            return NO_SUCH_PEG;
        }
        return lost[peg] ? WRONG_STATE : points[peg];
    }

    public long speedOf(int peg) {
        if (!pegExists(peg)) {
            return NO_SUCH_PEG;
        }
        return lost[peg] ? WRONG_STATE : speeds[peg];
    }

    public long speedTowards(int point) {
        if (!isPoint(point)) {
            return OUT_OF_RANGE;
        }
        int sum = 0;
        for (int peg = 0; peg < pegs; peg++) {
            if (!lost[peg] && points[peg] == point) {
                sum += speeds[peg];
            }
        }
        return sum;
    }

    /** The caller has seen that there is room for one more peg. */
    private int putBehindLast(int point, int speed) {
        int peg = pegs;
        pegs++;
        put(peg, point, speed);
        leeways[peg] = 0;
        return peg;
    }

    private void put(int peg, int point, int speed) {
        points[peg] = point;
        speeds[peg] = speed;
        lost[peg] = false;
    }

    private int lostCount(int from, int to) {
        int count = 0;
        for (int peg = from; peg < to; peg++) {
            if (lost[peg]) {
                count++;
            }
        }
        return count;
    }

    private int firstLost() {
        for (int peg = 0; peg < pegs; peg++) {
            if (lost[peg]) {
                return peg;
            }
        }
        return NONE;
    }

    private boolean pegExists(int peg) {
        return inRange(peg, 0, pegs - 1);
    }

    private static boolean isPoint(int point) {
        return inRange(point, 0, POINTS - 1);
    }

    private static boolean isSpeed(int speed) {
        return inRange(speed, 0, MAX_SPEED);
    }

    private static boolean inRange(int value, int least, int greatest) {
        return value >= least && value <= greatest;
    }

    // ---- fixes

    public long setFix(int moment, int north, int east) {
        if (!fixCanStand(moment)) {
            return NO_SUCH_MOMENT;
        }
        if (!isCoordinate(north) || !isCoordinate(east)) {
            return OUT_OF_RANGE;
        }
        fixed[moment] = true;
        fixNorths[moment] = north;
        fixEasts[moment] = east;
        return fixCount();
    }

    public long removeFix(int moment) {
        if (!fixCanStand(moment)) {
            return NO_SUCH_MOMENT;
        }
        if (!fixed[moment]) {
            return NOTHING;
        }
        fixed[moment] = false;
        return fixCount();
    }

    private int fixCount() {
        int count = 0;
        for (int moment = 0; moment <= pegs; moment++) {
            if (fixed[moment]) {
                count++;
            }
        }
        return count;
    }

    /** The last moment with a fix that is not after the moment; moment 0 always has one. */
    private int lastFix(int moment) {
        int at = moment;
        while (at > 0 && !fixed[at]) {
            at--;
        }
        return at;
    }

    private int firstFixAfter(int moment) {
        for (int at = moment + 1; at <= pegs; at++) {
            if (fixed[at]) {
                return at;
            }
        }
        return NONE;
    }

    private int fix(int moment, int axis) {
        return axis == NORTH ? fixNorths[moment] : fixEasts[moment];
    }

    private boolean momentExists(int moment) {
        return inRange(moment, 0, pegs);
    }

    private boolean fixCanStand(int moment) {
        return inRange(moment, 1, pegs);
    }

    private static boolean isCoordinate(int value) {
        return inRange(value, -MAX_COORDINATE, MAX_COORDINATE);
    }

    // ---- positions

    public long reckonedNorth(int moment) {
        return momentExists(moment) ? reckoned(moment, NORTH) : NO_SUCH_MOMENT;
    }

    public long reckonedEast(int moment) {
        return momentExists(moment) ? reckoned(moment, EAST) : NO_SUCH_MOMENT;
    }

    public long correctedNorth(int moment) {
        return momentExists(moment) ? corrected(moment, NORTH) : NO_SUCH_MOMENT;
    }

    public long correctedEast(int moment) {
        return momentExists(moment) ? corrected(moment, EAST) : NO_SUCH_MOMENT;
    }

    public long distance(int from, int to) {
        if (!momentExists(from) || !momentExists(to)) {
            return NO_SUCH_MOMENT;
        }
        return root(squares(difference(from, to, NORTH), difference(from, to, EAST)));
    }

    public long bearing(int from, int to) {
        if (!momentExists(from) || !momentExists(to)) {
            return NO_SUCH_MOMENT;
        }
        long north = difference(from, to, NORTH);
        long east = difference(from, to, EAST);
        if (north == 0 && east == 0) {
            return NOTHING;
        }
        return nearestPoint(north, east);
    }

    public long findLost(int peg) {
        if (!pegExists(peg)) {
            return NO_SUCH_PEG;
        }
        if (!lost[peg]) {
            return WRONG_STATE;
        }
        int from = lastFix(peg);
        int to = firstFixAfter(peg);
        if (to == NONE) {
            return NOTHING;
        }
        if (lostCount(from, to) > 1) {
            return WRONG_STATE;
        }
        return likeliest(error(from, to, NORTH), error(from, to, EAST), leeways[peg]);
    }

    private long reckoned(int moment, int axis) {
        int from = lastFix(moment);
        return fix(from, axis) + legs(from, moment, axis);
    }

    private long corrected(int moment, int axis) {
        int from = lastFix(moment);
        int to = firstFixAfter(moment);
        if (from == moment || to <= from) {
            return reckoned(moment, axis);
        }
        return reckoned(moment, axis) + Math.floorDiv(error(from, to, axis) * (moment - from), (long) (to - from));
    }

    /** What the legs from one fix to another leave wanting. */
    private long error(int from, int to, int axis) {
        return fix(to, axis) - fix(from, axis) - legs(from, to, axis);
    }

    private long legs(int from, int to, int axis) {
        long sum = (to - from) * movement(set, drift, axis);
        for (int peg = from; peg < to; peg++) {
            if (!lost[peg]) {
                sum += movement(points[peg] + leeways[peg], speeds[peg], axis);
            }
        }
        return sum;
    }

    /** Any number stands for a point here: points are counted modulo 32. */
    private static long movement(int point, int units, int axis) {
        return (long) units * SIN[Math.floorMod(point + axis, POINTS)];
    }

    private long difference(int from, int to, int axis) {
        return corrected(to, axis) - corrected(from, axis);
    }

    private static long squares(long north, long east) {
        return north * north + east * east;
    }

    /** Positions lie less than 2^30 apart, so that no square tried here leaves a long. */
    private static long root(long square) {
        long root = 0;
        for (int bit = 30; bit >= 0; bit--) {
            long tried = root + (1L << bit);
            if (tried * tried <= square) {
                root = tried;
            }
        }
        return root;
    }

    private static int nearestPoint(long north, long east) {
        int nearest = 0;
        for (int point = 1; point < POINTS; point++) {
            if (advance(north, east, point) > advance(north, east, nearest)) {
                nearest = point;
            }
        }
        return nearest;
    }

    private static long advance(long north, long east, int point) {
        return north * movement(point, 1, NORTH) + east * movement(point, 1, EAST);
    }

    /**
     * The peg that comes nearest to a movement, as 1000 * point + speed. The speeds rise in the outer loop,
     * so that the first of several is the one with the lowest speed and then the lowest point.
     */
    private static long likeliest(long north, long east, int leeway) {
        long likeliest = 0;
        long least = squares(north, east);
        for (int speed = 1; speed <= MAX_SPEED; speed++) {
            for (int point = 0; point < POINTS; point++) {
                long miss = miss(north, east, point + leeway, speed);
                if (miss < least) {
                    least = miss;
                    likeliest = 1000L * point + speed;
                }
            }
        }
        return likeliest;
    }

    private static long miss(long north, long east, int point, int speed) {
        return squares(north - movement(point, speed, NORTH), east - movement(point, speed, EAST));
    }

    // ---- digest

    public long digest() {
        long hash = mix(DIGEST_START, pegs);
        hash = mixPegs(hash);
        hash = mix(mix(hash, set), drift);
        hash = mixMoments(hash);
        hash = mix(mix(hash, distance(0, pegs)), bearing(0, pegs));
        int firstLost = firstLost();
        if (firstLost != NONE) {
            hash = mix(hash, findLost(firstLost));
        }
        return mixBuffer(hash);
    }

    private long mixPegs(long start) {
        long hash = start;
        for (int peg = 0; peg < pegs; peg++) {
            hash = mix(hash, pointOf(peg));
            hash = mix(hash, speedOf(peg));
            hash = mix(hash, leeways[peg]);
        }
        return hash;
    }

    private long mixMoments(long start) {
        long hash = start;
        for (int moment = 0; moment <= pegs; moment++) {
            hash = mix(hash, fixed[moment] ? 1 : 0);
            hash = mix(hash, reckoned(moment, NORTH));
            hash = mix(hash, reckoned(moment, EAST));
            hash = mix(hash, corrected(moment, NORTH));
            hash = mix(hash, corrected(moment, EAST));
        }
        return hash;
    }

    private long mixBuffer(long start) {
        long hash = mix(start, bufferLength);
        for (int at = 0; at < bufferLength; at++) {
            hash = mix(hash, buffer[at]);
        }
        return hash;
    }

    private static long mix(long hash, long value) {
        return 31 * hash + value;
    }
}
