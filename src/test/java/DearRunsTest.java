/**
 * Runs of 512 calls that cost the most, on the greatest house: each must end in a small part of a second (rule 7 of
 * LANGUAGE.md). Each is made many times over, and the limit lies far above what they take, so that a slow machine
 * passes too.
 */
public final class DearRunsTest {
    private static final int CALLS = 512;
    private static final int TIMES = 20;
    private static final long MOST_MILLIS = 3000;
    private static final int[][] CORNERS = {{3, 3}, {8, 3}, {3, 8}, {8, 8}};

    private static final Check CHECK = new Check();

    private static RollingBalls balls;
    private static int calls;

    private interface Run {
        void make();
    }

    private static void time(String name, Run run) {
        long start = System.nanoTime();
        for (int time = 0; time < TIMES; time++) {
            balls = new RollingBalls(12, 12, 10);
            calls = 0;
            run.make();
        }
        long millis = (System.nanoTime() - start) / 1_000_000;
        CHECK.due(name + ", " + TIMES + " times, took " + millis + " ms: no more than " + MOST_MILLIS,
                millis <= MOST_MILLIS, true);
    }

    private static void height(int x, int y, int h) {
        balls.height(x, y, h);
        calls++;
    }

    private static void rod(int x, int y, int length) {
        balls.rod(x, y, length);
        calls++;
    }

    private static void may(int x, int y, int length) {
        balls.may(x, y, length);
        calls++;
    }

    private static void want(int x, int y) {
        balls.want(x, y, true);
        calls++;
    }

    private static void level(int h) {
        for (int y = 0; y < 12; y++) {
            for (int x = 0; x < 12; x++) {
                height(x, y, h);
            }
        }
    }

    private static void chooseToTheEnd(int due) {
        for (; calls < CALLS; calls++) {
            CHECK.due("choose()", balls.choose(), due);
        }
    }

    /** The highest tip of all is wanted, and every candidate is shorter than the rod that it would replace. */
    private static void chooseInVain() {
        height(6, 6, 200);
        rod(6, 6, 50);
        may(1, 1, 10);
        may(10, 2, 9);
        may(5, 6, 8);
        may(9, 10, 7);
        rod(1, 1, 50);
        rod(10, 2, 50);
        rod(5, 6, 50);
        rod(9, 10, 50);
        want(6, 6);
        chooseToTheEnd(RollingBalls.NONE);
    }

    /** Nearly all points are wanted, one with a rod too: only a shorter one in its place keeps it safe. */
    private static void chooseAShorterRod() {
        for (int[] corner : CORNERS) {
            rod(corner[0], corner[1], 50);
            may(corner[0], corner[1], 1);
        }
        for (int y = 0; y < 12; y++) {
            for (int x = 0; x < 12; x++) {
                boolean ofRods = (x == 3 || x == 8) && (y == 3 || y == 8);
                if (!ofRods || x == 3 && y == 3) {
                    want(x, y);
                }
            }
        }
        chooseToTheEnd(1);
    }

    /** Each corner of a low roof needs the candidate that is nearest to it. */
    private static void chooseAll() {
        level(1);
        for (int[] corner : CORNERS) {
            may(corner[0], corner[1], 30);
        }
        want(0, 0);
        want(11, 11);
        want(0, 11);
        want(11, 0);
        chooseToTheEnd(15);
    }

    private static void moveASpike(int around) {
        level(around);
        for (; calls < CALLS; calls++) {
            balls.height(6, 6, calls % 2 == 0 ? 200 : 0);
        }
    }

    private static void putLongAndShort() {
        level(5);
        may(3, 3, 50);
        may(3, 3, 1);
        may(8, 8, 50);
        may(8, 8, 1);
        for (; calls < CALLS; calls++) {
            balls.put(calls % 2 == 0 ? 5 : 10);
        }
    }

    private static void askForTheLastSafe() {
        height(6, 6, 200);
        for (; calls < CALLS; calls++) {
            CHECK.due("safe(143)", balls.safe(143), RollingBalls.NONE);
        }
    }

    public static void main(String[] args) {
        time("choose, in vain", DearRunsTest::chooseInVain);
        time("choose a shorter rod", DearRunsTest::chooseAShorterRod);
        time("choose all", DearRunsTest::chooseAll);
        time("height, up and down, on the ground", () -> moveASpike(0));
        time("height, up and down, on a roof", () -> moveASpike(5));
        time("put, long and short", DearRunsTest::putLongAndShort);
        time("safe, the last", DearRunsTest::askForTheLastSafe);
        CHECK.end();
    }
}
