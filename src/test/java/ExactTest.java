import java.util.TreeMap;

/**
 * "All is compared exactly": two far points, and places that each reach but one of them, so that every pair of
 * heights t + sqrt(m) that a ball can rest at is compared once.
 */
public final class ExactTest {
    private static final int FAR = 11;
    private static final int MIDDLE = 100;
    private static final int CALLS = 512;

    private final Check check;
    private final int r;
    private RollingBalls balls;
    private int calls;

    private ExactTest(Check check, int r) {
        this.check = check;
        this.r = r;
    }

    /** For each square of distance that there is, one step {across, along} that has it. */
    private TreeMap<Integer, int[]> steps() {
        TreeMap<Integer, int[]> steps = new TreeMap<>();
        for (int along = 0; along <= r; along++) {
            for (int across = 0; across <= r; across++) {
                int square = across * across + along * along;
                if (square <= r * r) {
                    steps.put(square, new int[] {across, along});
                }
            }
        }
        return steps;
    }

    private void useFresh(int tip) {
        balls = new RollingBalls(FAR + 1, 1, r);
        balls.height(0, 0, MIDDLE);
        balls.height(FAR, 0, tip);
        calls = 2;
    }

    private void compare(int tip, int square, int[] step, int otherSquare, int[] otherStep) {
        if (calls > CALLS - 2) {
            useFresh(tip);
        }
        int due = new PlainModel.Height(MIDDLE, r * r - square)
                .compareTo(new PlainModel.Height(tip, r * r - otherSquare));
        int x = -step[0];
        int otherX = FAR + otherStep[0];
        String heights = " of " + MIDDLE + " + root " + (r * r - square)
                + ", " + tip + " + root " + (r * r - otherSquare);
        check.due("higher" + heights, balls.higher(x, step[1], otherX, otherStep[1]), due);
        check.due("higher, turned," + heights, balls.higher(otherX, otherStep[1], x, step[1]), -due);
        calls += 2;
    }

    private void run() {
        TreeMap<Integer, int[]> steps = steps();
        for (int tip = MIDDLE - r; tip <= MIDDLE + r; tip++) {
            useFresh(tip);
            for (int square : steps.keySet()) {
                for (int otherSquare : steps.keySet()) {
                    compare(tip, square, steps.get(square), otherSquare, steps.get(otherSquare));
                }
            }
        }
    }

    public static void main(String[] args) {
        Check check = new Check();
        for (int r = 1; r <= 10; r++) {
            new ExactTest(check, r).run();
        }
        check.end();
    }
}
