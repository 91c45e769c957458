import java.util.Arrays;

/** A ball rolled over a house with lightning rods: what it touches, what is safe, which rods to put. */
public final class RollingBalls {
    public static final int NONE = -1;

    private static final int MOST_POINTS_ACROSS = 12;
    private static final int MOST_RADIUS = 10;
    private static final int MOST_HEIGHT = 200;
    private static final int MOST_ROD = 50;
    private static final int NUMBERS_A_ROW = 100;

    private static final int WHAT_FLOOR = 0;
    private static final int WHAT_WHOLE = 1;
    private static final int WHAT_POINTS = 2;
    private static final int WHAT_GROUND = 3;

    private final int w;
    private final int d;
    private final int r;
    private final House house;
    private final Ball ball;
    private final Plan plan;
    private final boolean[] safeBefore;

    public RollingBalls(int w, int d, int r) {
        this.w = between(w, 1, MOST_POINTS_ACROSS);
        this.d = between(d, 1, MOST_POINTS_ACROSS);
        this.r = between(r, 1, MOST_RADIUS);
        house = new House(this.w, this.d);
        ball = new Ball(house, this.r);
        plan = new Plan(house, ball);
        safeBefore = new boolean[house.points];
    }

    public int height(int x, int y, int h) throws IllegalArgumentException {
        int point = pointAt(x, y);
        needNumber(h, 0, MOST_HEIGHT);
        int was = house.heights[point];
        house.heights[point] = h;
        ball.moveTip(point, house.tipWith(point, house.rods[point]));
        return was;
    }

    public int rod(int x, int y, int length) throws IllegalArgumentException {
        int point = pointAt(x, y);
        needNumber(length, 0, MOST_ROD);
        int was = house.rods[point];
        putRod(point, length);
        return was;
    }

    // ---- places

    public int rest(int x, int y, int what) throws IllegalArgumentException {
        needPlace(x, y);
        int rest = ball.restAt(x, y);
        switch (what) {
            case WHAT_FLOOR:
                return Level.floor(rest);
            case WHAT_WHOLE:
                return Level.isWhole(rest) ? 1 : 0;
            case WHAT_POINTS:
                return ball.countTouched(x, y);
            case WHAT_GROUND:
                return rest == ball.ground ? 1 : 0;
            default:
                throw new IllegalArgumentException("what is not one of 0, 1, 2, 3");
        }
    }

    public int touched(int x, int y, int k) throws IllegalArgumentException {
        needPlace(x, y);
        needIndex(k);
        ball.listTouched(x, y);
        return k < ball.listedCount ? numberOf(ball.listed[k]) : NONE;
    }

    public int higher(int x, int y, int otherX, int otherY) throws IllegalArgumentException {
        needPlace(x, y);
        needPlace(otherX, otherY);
        return Integer.compare(ball.restAt(x, y), ball.restAt(otherX, otherY));
    }

    public int tops() {
        return ball.countHighestPlaces();
    }

    // ---- points

    public int hits(int x, int y) throws IllegalArgumentException {
        return ball.hitCounts[pointAt(x, y)];
    }

    public int safe(int k) throws IllegalArgumentException {
        needIndex(k);
        int before = 0;
        for (int point = 0; point < house.points; point++) {
            if (ball.isSafe(point)) {
                if (before == k) {
                    return numberOf(point);
                }
                before++;
            }
        }
        return NONE;
    }

    public int cover(int x, int y) throws IllegalArgumentException {
        return Level.floor(ball.coverOf(pointAt(x, y)));
    }

    // ---- rods

    public int may(int x, int y, int length) throws IllegalArgumentException, IllegalStateException {
        int point = pointAt(x, y);
        needNumber(length, 1, MOST_ROD);
        if (plan.isFull()) {
            throw new IllegalStateException("there are 4 candidates");
        }
        plan.add(point, length);
        return plan.candidates;
    }

    public int forget() {
        int were = plan.candidates;
        plan.candidates = 0;
        return were;
    }

    public boolean want(int x, int y, boolean on) throws IllegalArgumentException {
        int point = pointAt(x, y);
        boolean was = plan.wanted[point];
        plan.wanted[point] = on;
        return was;
    }

    public int choose() {
        return plan.bestSet();
    }

    public int put(int set) {
        for (int point = 0; point < house.points; point++) {
            safeBefore[point] = ball.isSafe(point);
        }
        for (int k = 0; k < plan.candidates; k++) {
            if (Plan.holds(set, k)) {
                putRod(plan.candidatePoints[k], plan.candidateLengths[k]);
            }
        }
        int changed = 0;
        for (int point = 0; point < house.points; point++) {
            if (safeBefore[point] != ball.isSafe(point)) {
                changed++;
            }
        }
        return changed;
    }

    private void putRod(int point, int length) {
        house.rods[point] = length;
        ball.moveTip(point, house.tipWith(point, length));
    }

    private int numberOf(int point) {
        return NUMBERS_A_ROW * house.rows[point] + house.columns[point];
    }

    // ---- arguments

    private int pointAt(int x, int y) {
        needNumber(x, 0, w - 1);
        needNumber(y, 0, d - 1);
        return y * w + x;
    }

    private void needPlace(int x, int y) {
        needNumber(x, -r, w - 1 + r);
        needNumber(y, -r, d - 1 + r);
    }

    private static void needIndex(int k) {
        if (k < 0) {
            throw new IllegalArgumentException("k is below 0");
        }
    }

    private static void needNumber(int number, int least, int most) {
        if (number < least || number > most) {
            throw new IllegalArgumentException("a number is out of its bounds");
        }
    }

    private static int between(int number, int least, int most) {
        return Math.max(least, Math.min(number, most));
    }

    /**
     * Heights t + sqrt(m) as ints, in steps of 2^-20 and rounded down (t whole, at most 250; m at most 100).
     *
     * Why these ints compare as exactly as the heights: let x = t + sqrt(m) - sqrt(n), not 0, lie between -1 and 1.
     * Then |t| is at most 10, and the roots are not both whole. The product of all four t +- sqrt(m) +- sqrt(n) is
     * whole, and by squaring none of them is 0; the other three are at most 30. So |x| is at least 1 / 27000, which
     * is 38 steps, and rounding the roots shifts it by less than one. But if x is 0, either both roots are whole or
     * they are the same one, and rounding shifts nothing. As t may be any whole number, floors come out right too.
     */
    private static final class Level {
        private static final int STEP_BITS = 20;

        static final int ONE = 1 << STEP_BITS;

        /** The roots of 0 .. 100: written out, as working them out would be most of what a new object costs. */
        static final int[] ROOTS = {
            0, 1048576, 1482910, 1816186, 2097152, 2344687, 2568476, 2774271, 2965820, 3145728, 3315888, 3477733,
            3632373, 3780694, 3923412, 4061117, 4194304, 4323389, 4448731, 4570636, 4689374, 4805178, 4918257,
            5028793, 5136952, 5242880, 5346709, 5448560, 5548542, 5646754, 5743287, 5838224, 5931641, 6023610,
            6114196, 6203459, 6291456, 6378238, 6463856, 6548355, 6631776, 6714162, 6795549, 6875972, 6955466,
            7034061, 7111788, 7188674, 7264747, 7340032, 7414552, 7488330, 7561389, 7633748, 7705428, 7776447,
            7846824, 7916575, 7985716, 8054265, 8122234, 8189640, 8256495, 8322813, 8388608, 8453889, 8518671,
            8582964, 8646779, 8710126, 8773016, 8835458, 8897462, 8959037, 9020191, 9080934, 9141273, 9201217,
            9260772, 9319947, 9378748, 9437184, 9495259, 9552982, 9610357, 9667393, 9724093, 9780465, 9836514,
            9892246, 9947665, 10002777, 10057587, 10112100, 10166321, 10220254, 10273904, 10327275, 10380372,
            10433199, 10485760
        };

        static int floor(int level) {
            return level >> STEP_BITS;
        }

        static boolean isWhole(int level) {
            return floor(level) * ONE == level;
        }
    }

    /** The points (by y, then x), what stands on them, and how high that reaches. */
    private static final class House {
        final int w;
        final int d;
        final int points;
        final int[] columns;
        final int[] rows;
        final int[] heights;
        final int[] rods;
        /** By point, as levels; the ball moves them. */
        final int[] tips;
        /** By row: the highest of its tips. */
        final int[] rowTops;

        House(int w, int d) {
            this.w = w;
            this.d = d;
            points = w * d;
            columns = new int[points];
            rows = new int[points];
            heights = new int[points];
            rods = new int[points];
            tips = new int[points];
            rowTops = new int[d];
            for (int y = 0; y < d; y++) {
                for (int x = 0; x < w; x++) {
                    columns[y * w + x] = x;
                    rows[y * w + x] = y;
                }
            }
        }

        int tipWith(int point, int length) {
            return (heights[point] + length) * Level.ONE;
        }

        void setTip(int point, int tip) {
            tips[point] = tip;
            int row = rows[point];
            int top = 0;
            for (int each = row * w; each < row * w + w; each++) {
                top = Math.max(top, tips[each]);
            }
            rowTops[row] = top;
        }
    }

    /** What lies under the ball: the steps from its centre to all within its radius, the nearest ones first. */
    private static final class Shadow {
        /** A lift this low makes that no tip is touched. */
        static final int OUT_OF_REACH = -1 << 30;

        final int size;
        final int[] across;
        final int[] along;
        /** How far the index of a place goes on with this step. */
        final int[] strides;
        /** How far the centre is above a tip that the ball touches there: less and less. */
        final int[] lifts;
        /** The lifts again, by (along + r) * side + across + r; out of reach in the corners. */
        final int[] square;
        final int side;

        Shadow(int r, int placesAcross) {
            int[] next = firstSteps(r);
            size = next[r * r + 1];
            across = new int[size];
            along = new int[size];
            strides = new int[size];
            lifts = new int[size];
            side = 2 * r + 1;
            square = new int[side * side];
            for (int y = -r; y <= r; y++) {
                for (int x = -r; x <= r; x++) {
                    int distance = x * x + y * y;
                    int lift = distance <= r * r ? Level.ROOTS[r * r - distance] : OUT_OF_REACH;
                    square[(y + r) * side + x + r] = lift;
                    if (lift != OUT_OF_REACH) {
                        int step = next[distance];
                        next[distance]++;
                        across[step] = x;
                        along[step] = y;
                        strides[step] = y * placesAcross + x;
                        lifts[step] = lift;
                    }
                }
            }
        }

        /** By the square of a distance: how many steps are shorter. */
        private static int[] firstSteps(int r) {
            int[] first = new int[r * r + 2];
            for (int y = -r; y <= r; y++) {
                for (int x = -r; x <= r; x++) {
                    if (x * x + y * y <= r * r) {
                        first[x * x + y * y + 1]++;
                    }
                }
            }
            for (int distance = 0; distance <= r * r; distance++) {
                first[distance + 1] += first[distance];
            }
            return first;
        }
    }

    /**
     * The ball over a house: its rest at every place, and what it touches. All of it is kept right at every change
     * of a tip, place by place, so that asking needs but a look. Who calls sees to it that points and places exist.
     */
    private static final class Ball {
        final Shadow shadow;
        /** By point: the index of the place right above it. */
        final int[] homes;
        final int[] rests;
        /** The rest on the ground, the least there is. */
        final int ground;
        /** By place: one of the points that are touched there, or NONE. */
        final int[] owners;
        /** By point: at how many places it is touched. */
        final int[] hitCounts;
        /** The points that were found at the last place that was looked at. */
        final int[] listed;
        int listedCount = 0;

        private final House house;
        private final int r;
        private final int placesAcross;
        private final int[] touchCounts;

        Ball(House house, int r) {
            this.house = house;
            this.r = r;
            ground = r * Level.ONE;
            placesAcross = house.w + 2 * r;
            shadow = new Shadow(r, placesAcross);
            homes = new int[house.points];
            hitCounts = new int[house.points];
            listed = new int[house.points];
            rests = new int[placesAcross * (house.d + 2 * r)];
            owners = new int[rests.length];
            touchCounts = new int[rests.length];
            Arrays.fill(rests, ground);
            Arrays.fill(owners, NONE);
            for (int point = 0; point < house.points; point++) {
                int home = placeIndex(house.columns[point], house.rows[point]);
                homes[point] = home;
                owners[home] = point;
                touchCounts[home] = 1;
                hitCounts[point] = 1;
            }
        }

        int restAt(int x, int y) {
            return rests[placeIndex(x, y)];
        }

        int countTouched(int x, int y) {
            return touchCounts[placeIndex(x, y)];
        }

        void listTouched(int x, int y) {
            climb(house.tips, x, y, restAt(x, y));
        }

        boolean isSafe(int point) {
            return hitCounts[point] == 0;
        }

        int countHighestPlaces() {
            int highest = 0;
            int count = 0;
            for (int rest : rests) {
                if (rest > highest) {
                    highest = rest;
                    count = 0;
                }
                if (rest == highest) {
                    count++;
                }
            }
            return count;
        }

        int coverOf(int point) {
            int home = homes[point];
            int least = rests[home] - ground;
            for (int i = 0; i < shadow.size; i++) {
                least = Math.min(least, rests[home + shadow.strides[i]] - shadow.lifts[i]);
            }
            return least;
        }

        void moveTip(int point, int tip) {
            int was = house.tips[point];
            if (tip > was) {
                raiseTip(point, tip);
            }
            if (tip < was) {
                lowerTip(point, tip);
            }
        }

        /**
         * Goes on from the nearest place as long as the tip reaches up to a ball on the ground. The tip itself is set
         * last: what was touched at a place is found by the tips that were.
         */
        private void raiseTip(int point, int tip) {
            int[] strides = shadow.strides;
            int[] lifts = shadow.lifts;
            int home = homes[point];
            for (int i = 0; i < shadow.size && tip + lifts[i] >= ground; i++) {
                int place = home + strides[i];
                int level = tip + lifts[i];
                if (level < rests[place]) {
                    continue;
                }
                if (level > rests[place]) {
                    leave(place, house.columns[point] + shadow.across[i], house.rows[point] + shadow.along[i]);
                    rests[place] = level;
                }
                owners[place] = point;
                touchCounts[place]++;
                hitCounts[point]++;
            }
            house.setTip(point, tip);
        }

        /** The ball is lifted off all that it touches at a place. */
        private void leave(int place, int x, int y) {
            int owner = owners[place];
            if (owner == NONE) {
                return;
            }
            if (touchCounts[place] == 1) {
                hitCounts[owner]--;
            } else {
                climb(house.tips, x, y, rests[place]);
                countListed(-1);
            }
            touchCounts[place] = 0;
        }

        /** Goes on from the nearest place until all are done at which the point was touched. */
        private void lowerTip(int point, int tip) {
            int[] strides = shadow.strides;
            int[] lifts = shadow.lifts;
            int was = house.tips[point];
            int home = homes[point];
            int touches = hitCounts[point];
            house.setTip(point, tip);
            for (int i = 0; i < shadow.size && touches > 0; i++) {
                int place = home + strides[i];
                if (was + lifts[i] == rests[place]) {
                    touches--;
                    hitCounts[point]--;
                    settle(place, house.columns[point] + shadow.across[i], house.rows[point] + shadow.along[i]);
                }
            }
        }

        /** One of the points that were touched at a place has sunk: others hold the ball, or it comes down. */
        private void settle(int place, int x, int y) {
            if (touchCounts[place] > 1) {
                climb(house.tips, x, y, rests[place]);
            } else {
                rests[place] = climb(house.tips, x, y, ground);
                countListed(1);
            }
            touchCounts[place] = listedCount;
            owners[place] = listedCount > 0 ? listed[0] : NONE;
        }

        private void countListed(int step) {
            for (int n = 0; n < listedCount; n++) {
                hitCounts[listed[n]] += step;
            }
        }

        int liftOver(int point, int x, int y) {
            int across = house.columns[point] - x + r;
            int along = house.rows[point] - y + r;
            boolean isNear = across >= 0 && across < shadow.side && along >= 0 && along < shadow.side;
            return isNear ? shadow.square[along * shadow.side + across] : Shadow.OUT_OF_REACH;
        }

        /**
         * The rest at a place over tips that are nowhere higher than the house's, if it is no less than a told level;
         * lists what is touched, by y, then x. A row whose highest tip would be too low even at its nearest point is
         * passed over; to pass over many, it begins with the level of the point that is nearest of all.
         */
        int climb(int[] tips, int x, int y, int atLeast) {
            int[] square = shadow.square;
            int[] rowTops = house.rowTops;
            int w = house.w;
            int side = shadow.side;
            int lastX = x + r < w ? x + r : w - 1;
            int lastY = y + r < house.d ? y + r : house.d - 1;
            int firstX = x > r ? x - r : 0;
            int firstY = y > r ? y - r : 0;
            int nearX = x < firstX ? firstX : x > lastX ? lastX : x;
            int nearY = y < firstY ? firstY : y > lastY ? lastY : y;
            int nearLevel = tips[nearY * w + nearX] + square[(nearY - y + r) * side + nearX - x + r];
            int cells = (firstY - y + r) * side + r - x;
            int rest = nearLevel > atLeast ? nearLevel : atLeast;
            int count = 0;
            for (int row = firstY; row <= lastY; row++) {
                if (rowTops[row] + square[cells + nearX] >= rest) {
                    for (int column = firstX; column <= lastX; column++) {
                        int reached = tips[row * w + column] + square[cells + column];
                        if (reached > rest) {
                            rest = reached;
                            count = 0;
                        }
                        if (reached == rest) {
                            listed[count] = row * w + column;
                            count++;
                        }
                    }
                }
                cells += side;
            }
            listedCount = count;
            return rest;
        }

        private int placeIndex(int x, int y) {
            return (y + r) * placesAcross + x + r;
        }
    }

    /**
     * Which candidates to put so that the wanted points are safe. All sets are looked at together: many sets are one
     * int, in which bit S stands for the set that is S as a number.
     */
    private static final class Plan {
        private static final int MOST_CANDIDATES = 4;
        /** A candidate each, and the rod that is there at each one's point. */
        private static final int MOST_CHOICES = 2 * MOST_CANDIDATES;
        /** By candidate: the sets that hold it. */
        private static final int[] SETS_WITH = {0xAAAA, 0xCCCC, 0xF0F0, 0xFF00};
        private static final int EMPTY_SET = 0;

        final int[] candidatePoints = new int[MOST_CANDIDATES];
        final int[] candidateLengths = new int[MOST_CANDIDATES];
        int candidates = 0;
        final boolean[] wanted;

        private final House house;
        private final Ball ball;
        /** The tips that the candidates' points can have, each with the sets that give it. */
        private final int[] choicePoints = new int[MOST_CHOICES];
        private final int[] choiceTips = new int[MOST_CHOICES];
        private final int[] choiceSets = new int[MOST_CHOICES];
        private int choices = 0;
        /** The sets that make a tip lower than it is. */
        private int sinkingSets = 0;
        /** All tips, each as low as a set can make it. */
        private final int[] lowTips;

        Plan(House house, Ball ball) {
            this.house = house;
            this.ball = ball;
            wanted = new boolean[house.points];
            lowTips = new int[house.points];
        }

        static boolean holds(int set, int k) {
            return (set >> k & 1) == 1;
        }

        boolean isFull() {
            return candidates >= MOST_CANDIDATES;
        }

        void add(int point, int length) {
            candidatePoints[candidates] = point;
            candidateLengths[candidates] = length;
            candidates++;
        }

        /**
         * Where a ball does not sink, only what it touches now and the candidates' own points can be hit. So these
         * are looked at first. Where it may sink is looked at last, and only for sets that make a tip sink and are
         * better than all other ones left.
         */
        int bestSet() {
            if (areWantedSafe()) {
                return EMPTY_SET;
            }
            listChoices();
            findLowTips();
            int sets = (1 << (1 << candidates)) - 1;
            for (int point = 0; point < house.points && sets != 0; point++) {
                if (wanted[point]) {
                    sets = isCandidate(point) ? setsThatSave(point, sets) : setsThatFree(point, sets);
                }
            }
            int best = bestOf(sets & ~sinkingSets);
            sets = setsBetterThan(best, sets & sinkingSets);
            for (int point = 0; point < house.points && sets != 0; point++) {
                if (lowTips[point] < house.tips[point]) {
                    sets = setsThatMayLower(point, sets);
                }
            }
            return sets == 0 ? best : bestOf(sets);
        }

        private boolean areWantedSafe() {
            for (int point = 0; point < house.points; point++) {
                if (wanted[point] && !ball.isSafe(point)) {
                    return false;
                }
            }
            return true;
        }

        private boolean isCandidate(int point) {
            return countCandidates(point, candidates) > 0;
        }

        /** How many of the candidates below k are of a point. */
        private int countCandidates(int point, int k) {
            int count = 0;
            for (int each = 0; each < k; each++) {
                if (candidatePoints[each] == point) {
                    count++;
                }
            }
            return count;
        }

        // ---- what the sets do to tips

        private void listChoices() {
            choices = 0;
            sinkingSets = 0;
            for (int k = 0; k < candidates; k++) {
                int point = candidatePoints[k];
                int overruling = 0;
                for (int later = k + 1; later < candidates; later++) {
                    if (candidatePoints[later] == point) {
                        overruling |= SETS_WITH[later];
                    }
                }
                addChoice(point, house.tipWith(point, candidateLengths[k]), SETS_WITH[k] & ~overruling);
                if (countCandidates(point, k) == 0) {
                    addChoice(point, house.tips[point], ~(SETS_WITH[k] | overruling));
                }
            }
        }

        private void addChoice(int point, int tip, int sets) {
            choicePoints[choices] = point;
            choiceTips[choices] = tip;
            choiceSets[choices] = sets;
            choices++;
            if (tip < house.tips[point]) {
                sinkingSets |= sets;
            }
        }

        private void findLowTips() {
            System.arraycopy(house.tips, 0, lowTips, 0, lowTips.length);
            for (int n = 0; n < choices; n++) {
                lowTips[choicePoints[n]] = Math.min(lowTips[choicePoints[n]], choiceTips[n]);
            }
        }

        // ---- which sets make points safe

        /** Of some sets those that lift the ball off a point wherever it is touched now. */
        private int setsThatFree(int point, int sets) {
            Shadow shadow = ball.shadow;
            int home = ball.homes[point];
            int tip = house.tips[point];
            int touches = ball.hitCounts[point];
            int left = sets;
            for (int i = 0; i < shadow.size && touches > 0 && left != 0; i++) {
                int level = tip + shadow.lifts[i];
                if (ball.rests[home + shadow.strides[i]] == level) {
                    touches--;
                    left &= setsAbove(level, house.columns[point] + shadow.across[i],
                            house.rows[point] + shadow.along[i]);
                }
            }
            return left;
        }

        /** Of some sets those that make a candidate's point safe, each with the tip that it gives it. */
        private int setsThatSave(int point, int sets) {
            int saving = 0;
            for (int n = 0; n < choices; n++) {
                if (choicePoints[n] == point) {
                    saving |= setsThatCover(point, choiceTips[n], sets & choiceSets[n]);
                }
            }
            return saving;
        }

        /** Of some sets those that keep the ball off a candidate's point with a told tip at every place. */
        private int setsThatCover(int point, int tip, int sets) {
            Shadow shadow = ball.shadow;
            int home = ball.homes[point];
            int left = sets;
            for (int i = 0; i < shadow.size && tip + shadow.lifts[i] >= ball.ground && left != 0; i++) {
                int level = tip + shadow.lifts[i];
                int place = home + shadow.strides[i];
                int x = house.columns[point] + shadow.across[i];
                int y = house.rows[point] + shadow.along[i];
                if (ball.rests[place] <= level || maySink(place) && lowRest(x, y) <= level) {
                    left &= setsAbove(level, x, y);
                }
            }
            return left;
        }

        private boolean maySink(int place) {
            int owner = ball.owners[place];
            return owner != NONE && lowTips[owner] < house.tips[owner];
        }

        private int lowRest(int x, int y) {
            return ball.climb(lowTips, x, y, ball.ground);
        }

        /** Of some sets those that let a point sink, if they do, without the ball coming down on a wanted one. */
        private int setsThatMayLower(int point, int sets) {
            Shadow shadow = ball.shadow;
            int home = ball.homes[point];
            int left = sets;
            for (int i = 0; i < shadow.size && left != 0; i++) {
                if (ball.owners[home + shadow.strides[i]] == point) {
                    int x = house.columns[point] + shadow.across[i];
                    int y = house.rows[point] + shadow.along[i];
                    int level = lowRest(x, y);
                    if (isWantedListed()) {
                        left &= setsAbove(level, x, y);
                    }
                }
            }
            return left;
        }

        private boolean isWantedListed() {
            for (int n = 0; n < ball.listedCount; n++) {
                if (wanted[ball.listed[n]]) {
                    return true;
                }
            }
            return false;
        }

        /**
         * The sets in which a candidate's point keeps the ball above a level at a place. If the level is that of such
         * a point itself, its other choices do no harm here: they belong to other sets than those that are asked about.
         */
        private int setsAbove(int level, int x, int y) {
            int sets = 0;
            for (int n = 0; n < choices; n++) {
                if (choiceTips[n] + ball.liftOver(choicePoints[n], x, y) > level) {
                    sets |= choiceSets[n];
                }
            }
            return sets;
        }

        // ---- which set is the best one

        private int bestOf(int sets) {
            int best = NONE;
            for (int set = 0; set < 1 << candidates; set++) {
                if (holds(sets, set) && isBetter(set, best)) {
                    best = set;
                }
            }
            return best;
        }

        private int setsBetterThan(int best, int sets) {
            int better = 0;
            for (int set = 0; set < 1 << candidates; set++) {
                if (holds(sets, set) && isBetter(set, best)) {
                    better |= 1 << set;
                }
            }
            return better;
        }

        private boolean isBetter(int set, int than) {
            if (than == NONE) {
                return true;
            }
            int fewer = Integer.bitCount(than) - Integer.bitCount(set);
            if (fewer != 0) {
                return fewer > 0;
            }
            int shorter = lengthOf(than) - lengthOf(set);
            return shorter > 0 || shorter == 0 && set < than;
        }

        private int lengthOf(int set) {
            int length = 0;
            for (int k = 0; k < candidates; k++) {
                if (holds(set, k)) {
                    length += candidateLengths[k];
                }
            }
            return length;
        }
    }
}
