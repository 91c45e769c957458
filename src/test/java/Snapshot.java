/** All that an object can be asked, as one text: what two objects hold is alike if their texts are. */
final class Snapshot {
    private static final int MOST_CANDIDATES = 4;

    private final RollingBalls balls;
    private final int w;
    private final int d;
    private final int r;
    private final StringBuilder text = new StringBuilder();

    private Snapshot(RollingBalls balls, int w, int d, int r) {
        this.balls = balls;
        this.w = w;
        this.d = d;
        this.r = r;
    }

    /** Takes some 300 calls for 2 x 3 points and R 1; the object is spent after it, as the candidates are put. */
    static String of(RollingBalls balls, int w, int d, int r) {
        Snapshot taken = new Snapshot(balls, w, d, r);
        taken.addPlaces();
        taken.addPoints();
        taken.addPlan();
        return taken.text.toString();
    }

    private void add(String name, int answer) {
        text.append(name).append(' ').append(answer).append('\n');
    }

    private void addPlaces() {
        for (int y = -r; y <= d - 1 + r; y++) {
            for (int x = -r; x <= w - 1 + r; x++) {
                for (int what = 0; what < 4; what++) {
                    add("rest", balls.rest(x, y, what));
                }
                add("touched", balls.touched(x, y, 0));
                add("touched", balls.touched(x, y, 1));
            }
        }
        add("tops", balls.tops());
    }

    private void addPoints() {
        for (int y = 0; y < d; y++) {
            for (int x = 0; x < w; x++) {
                add("hits", balls.hits(x, y));
                add("cover", balls.cover(x, y));
                int height = balls.height(x, y, 0);
                balls.height(x, y, height);
                add("height", height);
                boolean wanted = balls.want(x, y, false);
                balls.want(x, y, wanted);
                add("wanted", wanted ? 1 : 0);
            }
        }
        addRods();
        for (int k = 0; k < w * d; k++) {
            add("safe", balls.safe(k));
        }
    }

    private void addRods() {
        for (int y = 0; y < d; y++) {
            for (int x = 0; x < w; x++) {
                int length = balls.rod(x, y, 0);
                balls.rod(x, y, length);
                add("rod", length);
            }
        }
    }

    /** A candidate is seen only by the rod that it puts. */
    private void addPlan() {
        add("choose", balls.choose());
        for (int k = 0; k < MOST_CANDIDATES; k++) {
            add("put", balls.put(1 << k));
            addRods();
        }
        add("forget", balls.forget());
    }
}
