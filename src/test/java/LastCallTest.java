/** "An object is used for at most 512 calls after it has been made": the 512th is answered like any other. */
public final class LastCallTest {
    private static final int CALLS = 512;
    private static final Check CHECK = new Check();

    private interface Call {
        int on(RollingBalls balls);
    }

    /** An object after 511 calls, refused ones among them. */
    private static RollingBalls spent() {
        RollingBalls b = new RollingBalls(5, 1, 1);
        b.rod(2, 0, 1);
        b.height(2, 0, 3);
        b.may(2, 0, 9);
        b.may(3, 0, 8);
        b.want(0, 0, true);
        b.want(3, 0, true);
        for (int calls = 6; calls < CALLS - 1; calls++) {
            int at = calls % 5;
            if (calls % 3 == 0) {
                CHECK.illegalArgument("a call that is refused", () -> b.height(at, 1, 1));
            } else {
                b.rest(at, 0, calls % 4);
            }
        }
        return b;
    }

    private static void last(String name, Call call, int due) {
        RollingBalls b = spent();
        CHECK.due("512th call: " + name, call.on(b), due);
    }

    private static void lastRefused(String name, Call call) {
        RollingBalls b = spent();
        CHECK.illegalArgument("512th call: " + name, () -> call.on(b));
    }

    public static void main(String[] args) {
        last("height", b -> b.height(2, 0, 200), 3);
        last("rod", b -> b.rod(2, 0, 50), 1);
        last("rest", b -> b.rest(2, 0, 0), 5);
        last("touched", b -> b.touched(1, 0, 0), 2);
        last("higher", b -> b.higher(2, 0, 1, 0), 1);
        last("tops", RollingBalls::tops, 1);
        last("hits", b -> b.hits(2, 0), 5);
        last("safe", b -> b.safe(1), 3);
        last("cover", b -> b.cover(2, 0), 4);
        last("may", b -> b.may(0, 0, 1), 3);
        last("forget", RollingBalls::forget, 2);
        last("want", b -> b.want(3, 0, false) ? 1 : 0, 1);
        last("choose", RollingBalls::choose, RollingBalls.NONE);
        last("put", b -> b.put(2), 2);
        lastRefused("height", b -> b.height(2, 0, 201));
        lastRefused("may", b -> b.may(2, 0, 0));
        CHECK.end();
    }
}
