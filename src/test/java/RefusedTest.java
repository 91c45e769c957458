/**
 * "In all calls illegal argument: a number is out of its bounds, there is no such point, place. Illegal state: as
 * told. Of several exceptions the one named first is thrown; a call that throws changes nothing."
 *
 * Each refused call is made on an object of its own, which then must hold what it held before.
 */
public final class RefusedTest {
    private static final int LEAST = Integer.MIN_VALUE;
    private static final int MOST = Integer.MAX_VALUE;
    private static final int W = 2;
    private static final int D = 3;
    private static final int R = 1;
    private static final int FULL = 4;
    private static final Check CHECK = new Check();

    /** Beside the four edges and corners, those that come out as a point's index, some only by a wrap-around. */
    private static final int[][] NO_POINTS = {
        {-1, 0}, {W, 0}, {0, -1}, {0, D}, {-1, -1}, {W, D}, {-1, 1}, {W, 1}, {W, -1}, {-1, D}, {-2, 2}, {5, 0},
        {LEAST, 0}, {MOST, 0}, {0, LEAST}, {0, MOST}, {1, LEAST}, {LEAST, LEAST}, {MOST, MOST}, {0, 1 << 30},
        {256, 0}, {0, 256}, {65536, 0}, {0, 65536},
    };

    private static final int[][] NO_PLACES = {
        {-R - 1, 0}, {W + R, 0}, {0, -R - 1}, {0, D + R}, {-R - 1, -R - 1}, {W + R, D + R}, {-R - 1, 1}, {W + R, -1},
        {LEAST, 0}, {MOST, 0}, {0, LEAST}, {0, MOST}, {LEAST, LEAST}, {MOST, MOST}, {0, 1 << 30}, {1 << 30, 0},
        {256, 0}, {0, 256}, {65536, 0}, {0, 65536},
    };

    private interface Call {
        void on(RollingBalls balls);
    }

    private interface CallAt {
        void on(RollingBalls balls, int x, int y);
    }

    private interface CallWith {
        void on(RollingBalls balls, int number);
    }

    /** Heights, rods, candidates and wanted points, such that a change of any of them is seen. */
    private static RollingBalls prepared(int candidates) {
        RollingBalls balls = new RollingBalls(W, D, R);
        balls.height(1, 2, 3);
        balls.height(0, 1, 1);
        balls.rod(0, 1, 2);
        balls.rod(1, 0, 5);
        balls.want(0, 2, true);
        balls.want(1, 1, true);
        for (int k = 0; k < candidates; k++) {
            balls.may(k % W, k / W, 4 + k);
        }
        return balls;
    }

    private static String heldBy(RollingBalls balls) {
        return Snapshot.of(balls, W, D, R);
    }

    private static void changesNothing(String name, RollingBalls balls, int candidates) {
        CHECK.due(name + " changes nothing", heldBy(balls).equals(heldBy(prepared(candidates))), true);
    }

    private static void refused(String name, Call call) {
        RollingBalls balls = prepared(2);
        CHECK.illegalArgument(name, () -> call.on(balls));
        changesNothing(name, balls, 2);
    }

    private static void allowed(String name, Call call) {
        CHECK.due(name + " is allowed", answers(call), true);
    }

    private static boolean answers(Call call) {
        try {
            call.on(prepared(2));
            return true;
        } catch (RuntimeException e) {
            return false;
        }
    }

    // ---- there is no such point, place

    private static void refusedAt(String name, int[][] wrong, CallAt call) {
        for (int[] at : wrong) {
            refused(name + " at (" + at[0] + ", " + at[1] + ")", balls -> call.on(balls, at[0], at[1]));
        }
    }

    private static void needsAPoint(String name, CallAt call) {
        refusedAt(name, NO_POINTS, call);
        for (int y = 0; y < D; y++) {
            for (int x = 0; x < W; x++) {
                int atX = x;
                int atY = y;
                allowed(name + " at (" + x + ", " + y + ")", balls -> call.on(balls, atX, atY));
            }
        }
    }

    private static void needsAPlace(String name, CallAt call) {
        refusedAt(name, NO_PLACES, call);
        for (int y = -R; y <= D - 1 + R; y++) {
            for (int x = -R; x <= W - 1 + R; x++) {
                int atX = x;
                int atY = y;
                allowed(name + " at (" + x + ", " + y + ")", balls -> call.on(balls, atX, atY));
            }
        }
    }

    private static void thereIsNoSuchPoint() {
        needsAPoint("2: height", (balls, x, y) -> balls.height(x, y, 7));
        needsAPoint("3: rod", (balls, x, y) -> balls.rod(x, y, 7));
        needsAPoint("8: hits", (balls, x, y) -> balls.hits(x, y));
        needsAPoint("10: cover", (balls, x, y) -> balls.cover(x, y));
        needsAPoint("11: may", (balls, x, y) -> balls.may(x, y, 7));
        needsAPoint("13: want on", (balls, x, y) -> balls.want(x, y, true));
        needsAPoint("13: want off", (balls, x, y) -> balls.want(x, y, false));
    }

    private static void thereIsNoSuchPlace() {
        for (int each = 0; each < 4; each++) {
            int what = each;
            needsAPlace("4: rest, what " + what, (balls, x, y) -> balls.rest(x, y, what));
        }
        needsAPlace("5: touched", (balls, x, y) -> balls.touched(x, y, 0));
        needsAPlace("6: higher, the first place", (balls, x, y) -> balls.higher(x, y, 0, 0));
        needsAPlace("6: higher, the other place", (balls, x, y) -> balls.higher(0, 0, x, y));
        needsAPlace("6: higher, both places", (balls, x, y) -> balls.higher(x, y, x, y));
    }

    // ---- a number is out of its bounds

    private static void refusedWith(String name, int[] wrong, CallWith call) {
        for (int number : wrong) {
            refused(name + " " + number, balls -> call.on(balls, number));
        }
    }

    private static void allowedFrom(String name, int least, int most, CallWith call) {
        for (int each = least; each <= most; each++) {
            int number = each;
            allowed(name + " " + number, balls -> call.on(balls, number));
        }
    }

    private static void heightsAreFrom0To200() {
        int[] wrong = {-1, 201, -200, 256, 65536, 1 << 24, LEAST, MOST};
        refusedWith("2: height", wrong, (balls, h) -> balls.height(1, 2, h));
        allowedFrom("2: height", 0, 200, (balls, h) -> balls.height(1, 2, h));
    }

    private static void rodsAreFrom0To50() {
        int[] wrong = {-1, 51, -50, 200, 256, 65536, LEAST, MOST};
        refusedWith("3: rod", wrong, (balls, length) -> balls.rod(0, 1, length));
        allowedFrom("3: rod", 0, 50, (balls, length) -> balls.rod(0, 1, length));
    }

    private static void candidatesAreFrom1To50() {
        int[] wrong = {0, -1, 51, -50, 200, 257, 65537, LEAST, MOST};
        refusedWith("11: may, length", wrong, (balls, length) -> balls.may(0, 1, length));
        allowedFrom("11: may, length", 1, 50, (balls, length) -> balls.may(0, 1, length));
    }

    private static void whatIsFrom0To3() {
        int[] wrong = {-1, 4, 5, 256, 65536, LEAST, MOST};
        refusedWith("4: rest, what", wrong, (balls, what) -> balls.rest(0, 0, what));
        allowedFrom("4: rest, what", 0, 3, (balls, what) -> balls.rest(0, 0, what));
    }

    private static void kIsNotBelow0() {
        int[] wrong = {-1, -2, -256, LEAST};
        refusedWith("5: touched, k", wrong, (balls, k) -> balls.touched(0, 0, k));
        refusedWith("9: safe, k", wrong, (balls, k) -> balls.safe(k));
        allowedFrom("5: touched, k", 0, 300, (balls, k) -> balls.touched(0, 0, k));
        allowedFrom("9: safe, k", 0, 300, (balls, k) -> balls.safe(k));
        allowed("5: touched, the most k", balls -> balls.touched(0, 0, MOST));
        allowed("9: safe, the most k", balls -> balls.safe(MOST));
    }

    private static void bothAreWrong() {
        refused("2: height, point and height", balls -> balls.height(W, 0, 201));
        refused("3: rod, point and rod", balls -> balls.rod(0, D, -1));
        refused("4: rest, place and what", balls -> balls.rest(-R - 1, 0, 4));
        refused("5: touched, place and k", balls -> balls.touched(0, D + R, -1));
        refused("11: may, point and length", balls -> balls.may(-1, 0, 0));
    }

    // ---- illegal state

    private static void thereAre4() {
        for (int were = 0; were < FULL; were++) {
            CHECK.due("11: may, there are " + were, prepared(were).may(1, 2, 9), were + 1);
        }
        RollingBalls balls = prepared(FULL);
        CHECK.illegalState("11: may, there are 4", () -> balls.may(1, 2, 9));
        changesNothing("11: may, there are 4", balls, FULL);
        RollingBalls same = prepared(FULL);
        CHECK.illegalState("11: may, one that there is", () -> same.may(1, 1, 7));
        changesNothing("11: may, one that there is", same, FULL);
    }

    private static void theOneNamedFirst() {
        for (int[] at : NO_POINTS) {
            RollingBalls balls = prepared(FULL);
            String name = "11: may, there are 4, at (" + at[0] + ", " + at[1] + ")";
            CHECK.illegalArgument(name, () -> balls.may(at[0], at[1], 9));
            changesNothing(name, balls, FULL);
        }
        for (int length : new int[] {0, -1, 51, LEAST, MOST}) {
            RollingBalls balls = prepared(FULL);
            String name = "11: may, there are 4, length " + length;
            CHECK.illegalArgument(name, () -> balls.may(1, 2, length));
            changesNothing(name, balls, FULL);
        }
    }

    public static void main(String[] args) {
        thereIsNoSuchPoint();
        thereIsNoSuchPlace();
        heightsAreFrom0To200();
        rodsAreFrom0To50();
        candidatesAreFrom1To50();
        whatIsFrom0To3();
        kIsNotBelow0();
        bothAreWrong();
        thereAre4();
        theOneNamedFirst();
        CHECK.end();
    }
}
