import java.util.Arrays;

/** A ball rolled over a house with lightning rods: what it touches, what is safe, which rods to put. */
public final class RollingBalls {
    public static final int NONE = -1;

    private static final int MOST_POINTS_ACROSS = 12;
    private static final int MOST_RADIUS = 10;
    private static final int MOST_HEIGHT = 200;
    private static final int MOST_ROD = 50;
    private static final int MOST_CANDIDATES = 4;
    private static final int NUMBERS_A_ROW = 100;

    private static final int WHAT_FLOOR = 0;
    private static final int WHAT_WHOLE = 1;
    private static final int WHAT_POINTS = 2;
    private static final int WHAT_GROUND = 3;

    private final int w;
    private final int d;
    private final int r;
    private final House house;
    private final boolean[] wanted;
    private final boolean[] safeBefore;
    private final int[] candidatePoints = new int[MOST_CANDIDATES];
    private final int[] candidateLengths = new int[MOST_CANDIDATES];
    private int candidates = 0;

    public RollingBalls(int w, int d, int r) {
        this.w = between(w, 1, MOST_POINTS_ACROSS);
        this.d = between(d, 1, MOST_POINTS_ACROSS);
        this.r = between(r, 1, MOST_RADIUS);
        house = new House(this.w, this.d, this.r);
        wanted = new boolean[house.points];
        safeBefore = new boolean[house.points];
    }

    public int height(int x, int y, int h) throws IllegalArgumentException {
        int point = pointAt(x, y);
        needNumber(h, 0, MOST_HEIGHT);
        return house.setHeight(point, h);
    }

    public int rod(int x, int y, int length) throws IllegalArgumentException {
        int point = pointAt(x, y);
        needNumber(length, 0, MOST_ROD);
        return house.setRod(point, length);
    }

    // ---- places

    public int rest(int x, int y, int what) throws IllegalArgumentException {
        needPlace(x, y);
        switch (what) {
            case WHAT_FLOOR:
                return Level.floor(house.restAt(x, y));
            case WHAT_WHOLE:
                return Level.isWhole(house.restAt(x, y)) ? 1 : 0;
            case WHAT_POINTS:
                return house.listTouched(x, y);
            case WHAT_GROUND:
                return house.restAt(x, y) == r * Level.ONE ? 1 : 0;
            default:
                throw new IllegalArgumentException("what is not one of 0, 1, 2, 3");
        }
    }

    public int touched(int x, int y, int k) throws IllegalArgumentException {
        needPlace(x, y);
        needIndex(k);
        int count = house.listTouched(x, y);
        return k < count ? house.listed[k] : NONE;
    }

    public int higher(int x, int y, int otherX, int otherY) throws IllegalArgumentException {
        needPlace(x, y);
        needPlace(otherX, otherY);
        int rest = house.restAt(x, y);
        int otherRest = house.restAt(otherX, otherY);
        if (rest == otherRest) {
            return 0;
        }
        return rest > otherRest ? 1 : -1;
    }

    public int tops() {
        return house.countHighestPlaces();
    }

    // ---- points

    public int hits(int x, int y) throws IllegalArgumentException {
        return house.countHits(pointAt(x, y));
    }

    public int safe(int k) throws IllegalArgumentException {
        needIndex(k);
        int count = house.listSafe();
        return k < count ? house.listed[k] : NONE;
    }

    public int cover(int x, int y) throws IllegalArgumentException {
        return Level.floor(house.coverOf(pointAt(x, y)));
    }

    // ---- rods

    public int may(int x, int y, int length) throws IllegalArgumentException, IllegalStateException {
        int point = pointAt(x, y);
        needNumber(length, 1, MOST_ROD);
        if (candidates >= MOST_CANDIDATES) {
            throw new IllegalStateException("there are 4 candidates");
        }
        candidatePoints[candidates] = point;
        candidateLengths[candidates] = length;
        candidates++;
        return candidates;
    }

    public int forget() {
        int were = candidates;
        candidates = 0;
        return were;
    }

    public boolean want(int x, int y, boolean on) throws IllegalArgumentException {
        int point = pointAt(x, y);
        boolean was = wanted[point];
        wanted[point] = on;
        return was;
    }

    public int choose() {
        int best = NONE;
        for (int set = 0; set < 1 << candidates; set++) {
            if (givesWay(best, set) && does(set)) {
                best = set;
            }
        }
        return best;
    }

    public int put(int set) {
        for (int point = 0; point < house.points; point++) {
            safeBefore[point] = house.isSafe(point);
        }
        putRods(set);
        int changed = 0;
        for (int point = 0; point < house.points; point++) {
            if (safeBefore[point] != house.isSafe(point)) {
                changed++;
            }
        }
        return changed;
    }

    // ---- sets of candidates

    /** Whether the best set so far (or NONE) is worse than a set that is greater as a number, if that one does. */
    private boolean givesWay(int best, int set) {
        if (best == NONE) {
            return true;
        }
        int bestCount = Integer.bitCount(best);
        int count = Integer.bitCount(set);
        return bestCount > count || bestCount == count && lengthOf(best) > lengthOf(set);
    }

    private int lengthOf(int set) {
        int length = 0;
        for (int k = 0; k < candidates; k++) {
            if (holds(set, k)) {
                length += candidateLengths[k];
            }
        }
        return length;
    }

    private boolean does(int set) {
        house.keepState();
        putRods(set);
        boolean allSafe = areWantedSafe();
        house.restoreState();
        return allSafe;
    }

    /** Goes up from candidate 0, so that of two candidates of one point the later one counts. */
    private void putRods(int set) {
        for (int k = 0; k < candidates; k++) {
            if (holds(set, k)) {
                house.setRod(candidatePoints[k], candidateLengths[k]);
            }
        }
    }

    private boolean areWantedSafe() {
        for (int point = 0; point < house.points; point++) {
            if (wanted[point] && !house.isSafe(point)) {
                return false;
            }
        }
        return true;
    }

    private static boolean holds(int set, int k) {
        return (set >> k & 1) == 1;
    }

    // ---- arguments

    private int pointAt(int x, int y) {
        needNumber(x, 0, w - 1);
        needNumber(y, 0, d - 1);
        return y * w + x;
    }

    private void needPlace(int x, int y) {
        needNumber(x, -r, w - 1 + r);
        needNumber(y, -r, d - 1 + r);
    }

    private static void needIndex(int k) {
        if (k < 0) {
            throw new IllegalArgumentException("k is below 0");
        }
    }

    private static void needNumber(int number, int least, int most) {
        if (number < least || number > most) {
            throw new IllegalArgumentException("a number is out of its bounds");
        }
    }

    private static int between(int number, int least, int most) {
        return Math.max(least, Math.min(number, most));
    }

    /**
     * Heights t + sqrt(m) as ints, in steps of 2^-20 and rounded down (t whole, at most 250; m at most 100).
     *
     * Why these ints compare as exactly as the heights: let x = t + sqrt(m) - sqrt(n), not 0, lie between -1 and 1.
     * Then |t| is at most 10, and the roots are not both whole. The product of all four t +- sqrt(m) +- sqrt(n) is
     * whole, and by squaring none of them is 0; the other three are at most 30. So |x| is at least 1 / 27000, which
     * is 38 steps, and rounding the roots shifts it by less than one. But if x is 0, either both roots are whole or
     * they are the same one, and rounding shifts nothing. As t may be any whole number, floors come out right too.
     */
    private static final class Level {
        private static final int STEP_BITS = 20;
        /** Enough for a root of 10, the greatest there is: 10 * 2^20 is below 2^24. */
        private static final int TOP_ROOT_BIT = 23;

        static final int ONE = 1 << STEP_BITS;

        static int ofRoot(int square) {
            long scaled = (long) square << 2 * STEP_BITS;
            long root = 0;
            for (int bit = TOP_ROOT_BIT; bit >= 0; bit--) {
                long tried = root + (1L << bit);
                if (tried * tried <= scaled) {
                    root = tried;
                }
            }
            return (int) root;
        }

        static int floor(int level) {
            return level >> STEP_BITS;
        }

        static boolean isWhole(int level) {
            return floor(level) * ONE == level;
        }
    }

    /** What lies under the ball: steps across and along from its centre, by along, then across. */
    private static final class Shadow {
        final int[] across;
        final int[] along;
        /** How far the centre is above a tip that the ball touches there. */
        final int[] lift;
        final int size;

        Shadow(int r) {
            int most = (2 * r + 1) * (2 * r + 1);
            across = new int[most];
            along = new int[most];
            lift = new int[most];
            int count = 0;
            for (int y = -r; y <= r; y++) {
                for (int x = -r; x <= r; x++) {
                    int square = x * x + y * y;
                    if (square <= r * r) {
                        across[count] = x;
                        along[count] = y;
                        lift[count] = Level.ofRoot(r * r - square);
                        count++;
                    }
                }
            }
            size = count;
        }
    }

    /** The points with their tips, and the ball's rest at every place. Who calls sees to it that these exist. */
    private static final class House {
        final int points;
        /** The numbers of the points that the last list call found. */
        final int[] listed;

        private final int w;
        private final int d;
        private final int r;
        private final int placesAcross;
        private final Shadow shadow;
        private final int[] numbers;
        /** By point: the index of the place right above it. */
        private final int[] homes;
        private final int[] heights;
        private final int[] rods;
        private final int[] keptRods;
        /** By place; brought up to date at every change of a tip, so that asking needs no more than a look. */
        private final int[] rests;
        private final int[] keptRests;

        House(int w, int d, int r) {
            this.w = w;
            this.d = d;
            this.r = r;
            points = w * d;
            placesAcross = w + 2 * r;
            shadow = new Shadow(r);
            listed = new int[points];
            numbers = new int[points];
            homes = new int[points];
            heights = new int[points];
            rods = new int[points];
            keptRods = new int[points];
            rests = new int[placesAcross * (d + 2 * r)];
            keptRests = new int[rests.length];
            for (int y = 0; y < d; y++) {
                for (int x = 0; x < w; x++) {
                    numbers[y * w + x] = NUMBERS_A_ROW * y + x;
                    homes[y * w + x] = placeIndex(x, y);
                }
            }
            Arrays.fill(rests, r * Level.ONE);
        }

        int setHeight(int point, int height) {
            int was = heights[point];
            heights[point] = height;
            moveRests(point, height - was);
            return was;
        }

        int setRod(int point, int length) {
            int was = rods[point];
            rods[point] = length;
            moveRests(point, length - was);
            return was;
        }

        /** Only one state is kept at a time, and heights are not in it: candidates change rods alone. */
        void keepState() {
            System.arraycopy(rods, 0, keptRods, 0, rods.length);
            System.arraycopy(rests, 0, keptRests, 0, rests.length);
        }

        void restoreState() {
            System.arraycopy(keptRods, 0, rods, 0, rods.length);
            System.arraycopy(keptRests, 0, rests, 0, rests.length);
        }

        int restAt(int x, int y) {
            return rests[placeIndex(x, y)];
        }

        int countHighestPlaces() {
            int highest = 0;
            int count = 0;
            for (int rest : rests) {
                if (rest > highest) {
                    highest = rest;
                    count = 0;
                }
                if (rest == highest) {
                    count++;
                }
            }
            return count;
        }

        int listTouched(int x, int y) {
            int rest = restAt(x, y);
            int count = 0;
            for (int i = 0; i < shadow.size; i++) {
                int pointX = x + shadow.across[i];
                int pointY = y + shadow.along[i];
                if (pointX < 0 || pointX >= w || pointY < 0 || pointY >= d) {
                    continue;
                }
                int point = pointY * w + pointX;
                if (tipOf(point) + shadow.lift[i] == rest) {
                    listed[count] = numbers[point];
                    count++;
                }
            }
            return count;
        }

        int listSafe() {
            int count = 0;
            for (int point = 0; point < points; point++) {
                if (isSafe(point)) {
                    listed[count] = numbers[point];
                    count++;
                }
            }
            return count;
        }

        boolean isSafe(int point) {
            return countHits(point) == 0;
        }

        int countHits(int point) {
            int tip = tipOf(point);
            int count = 0;
            for (int i = 0; i < shadow.size; i++) {
                if (rests[placeOver(point, i)] == tip + shadow.lift[i]) {
                    count++;
                }
            }
            return count;
        }

        int coverOf(int point) {
            int least = rests[homes[point]] - r * Level.ONE;
            for (int i = 0; i < shadow.size; i++) {
                least = Math.min(least, rests[placeOver(point, i)] - shadow.lift[i]);
            }
            return least;
        }

        /** A tip that falls may let the ball down onto any other one, so then all rests are found anew. */
        private void moveRests(int point, int rise) {
            if (rise > 0) {
                raiseRests(point);
            }
            if (rise < 0) {
                Arrays.fill(rests, r * Level.ONE);
                for (int each = 0; each < points; each++) {
                    raiseRests(each);
                }
            }
        }

        private void raiseRests(int point) {
            int tip = tipOf(point);
            for (int i = 0; i < shadow.size; i++) {
                int place = placeOver(point, i);
                rests[place] = Math.max(rests[place], tip + shadow.lift[i]);
            }
        }

        private int tipOf(int point) {
            return (heights[point] + rods[point]) * Level.ONE;
        }

        /** A place from which the ball reaches a point: every one of them exists, as places go R beyond the points. */
        private int placeOver(int point, int i) {
            return homes[point] + shadow.along[i] * placesAcross + shadow.across[i];
        }

        private int placeIndex(int x, int y) {
            return (y + r) * placesAcross + x + r;
        }
    }
}
