import java.util.Random;

/** Runs of 512 calls, right and wrong ones, on the class and on the plain model: every answer must be the same. */
public final class RandomRunsTest {
    private static final int CALLS = 512;
    /** What a call answered, or one of these if it threw. */
    private static final int ILLEGAL_ARGUMENT = -1_000_001;
    private static final int ILLEGAL_STATE = -1_000_002;
    private static final int OTHER_THROWN = -1_000_003;

    private final Random random;
    private final Check check;
    private final RollingBalls balls;
    private final PlainModel model;
    private final int highest;
    private final String name;

    private RandomRunsTest(int seed, Check check) {
        random = new Random(seed);
        this.check = check;
        int w = size(seed, 12);
        int d = size(seed, 12);
        int r = size(seed, 10);
        balls = new RollingBalls(w, d, r);
        model = new PlainModel(w, d, r);
        highest = new int[] {2, 6, 12, 30, 200}[random.nextInt(5)];
        name = "run " + seed + " (" + w + ", " + d + ", " + r + "): ";
    }

    private int size(int seed, int most) {
        return seed % 5 == 0 ? most - 2 + random.nextInt(5) : random.nextInt(Math.min(most, 6) + 2);
    }

    private interface Asked {
        int answer();
    }

    private static int answerOf(Asked asked) {
        try {
            return asked.answer();
        } catch (IllegalArgumentException e) {
            return ILLEGAL_ARGUMENT;
        } catch (IllegalStateException e) {
            return ILLEGAL_STATE;
        } catch (RuntimeException e) {
            return OTHER_THROWN;
        }
    }

    private void same(int at, String call, Asked ofClass, Asked ofModel) {
        check.due(name + "call " + at + " " + call, answerOf(ofClass), answerOf(ofModel));
    }

    private int wild() {
        int[] wilds = {Integer.MIN_VALUE, -1, 4, 12, 51, 201, Integer.MAX_VALUE};
        return wilds[random.nextInt(wilds.length)];
    }

    private int within(int least, int most) {
        return random.nextInt(60) == 0 ? wild() : least + random.nextInt(most - least + 1);
    }

    private int pointX() {
        return within(0, model.w - 1);
    }

    private int pointY() {
        return within(0, model.d - 1);
    }

    private int placeX() {
        return within(-model.r, model.w - 1 + model.r);
    }

    private int placeY() {
        return within(-model.r, model.d - 1 + model.r);
    }

    private void run() {
        for (int at = 0; at < CALLS; at++) {
            int kind = random.nextInt(32);
            if (kind < 12) {
                change(at, kind);
            } else if (kind < 21) {
                askPlaces(at, kind);
            } else if (kind < 26) {
                askPoints(at, kind);
            } else {
                askRods(at);
            }
        }
    }

    /** Low houses with rods to choose from, as after many changes nearly every point is safe or past saving. */
    private void runOfRods() {
        for (int at = 0; at < 14; at++) {
            if (at < 4) {
                setHeight(at, random.nextInt(3));
            } else if (at < 8) {
                addCandidate(at, 2 + random.nextInt(6));
            } else if (at < 11) {
                setWanted(at, true);
            } else if (at == 12) {
                putSet(at, 1 << random.nextInt(4));
            } else {
                same(at, "choose()", balls::choose, model::choose);
            }
        }
    }

    /** Rods, and candidates for the same points, shorter and longer ones: some wanted points need a rod to sink. */
    private void runOfRodsThatSink() {
        for (int at = 0; at < 5; at++) {
            setHeight(at, random.nextInt(5));
        }
        int[] xs = random.ints(3, 0, model.w).toArray();
        int[] ys = random.ints(3, 0, model.d).toArray();
        for (int n = 0; n < 3; n++) {
            int x = xs[n];
            int y = ys[n];
            int length = random.nextInt(30);
            same(n, "rod", () -> balls.rod(x, y, length), () -> model.rod(x, y, length));
        }
        for (int at = 8; at < 12; at++) {
            int n = random.nextInt(3);
            int length = 1 + random.nextInt(random.nextBoolean() ? 6 : 40);
            same(at, "may", () -> balls.may(xs[n], ys[n], length), () -> model.may(xs[n], ys[n], length));
        }
        for (int n = 0; n < 3; n++) {
            setWanted(12, true);
            int x = xs[n];
            int y = ys[n];
            boolean on = random.nextBoolean();
            same(13, "want", () -> balls.want(x, y, on) ? 1 : 0, () -> model.want(x, y, on) ? 1 : 0);
            same(14, "choose()", balls::choose, model::choose);
        }
    }

    private void change(int at, int kind) {
        if (kind < 5) {
            setHeight(at, within(0, highest));
        } else if (kind < 8) {
            setRod(at, within(0, Math.min(50, highest)));
        } else if (kind < 10) {
            addCandidate(at, within(1, Math.min(50, highest)));
        } else {
            setWanted(at, random.nextInt(4) == 0);
        }
    }

    private void setHeight(int at, int h) {
        int x = pointX();
        int y = pointY();
        same(at, "height(" + x + ", " + y + ", " + h + ")", () -> balls.height(x, y, h), () -> model.height(x, y, h));
    }

    private void setRod(int at, int length) {
        int x = pointX();
        int y = pointY();
        same(at, "rod(" + x + ", " + y + ", " + length + ")",
                () -> balls.rod(x, y, length), () -> model.rod(x, y, length));
    }

    private void addCandidate(int at, int length) {
        int x = pointX();
        int y = pointY();
        same(at, "may(" + x + ", " + y + ", " + length + ")",
                () -> balls.may(x, y, length), () -> model.may(x, y, length));
    }

    private void setWanted(int at, boolean on) {
        int x = pointX();
        int y = pointY();
        same(at, "want(" + x + ", " + y + ", " + on + ")",
                () -> balls.want(x, y, on) ? 1 : 0, () -> model.want(x, y, on) ? 1 : 0);
    }

    private void putSet(int at, int set) {
        same(at, "put(" + set + ")", () -> balls.put(set), () -> model.put(set));
    }

    private void askPlaces(int at, int kind) {
        int x = placeX();
        int y = placeY();
        if (kind < 16) {
            int what = within(0, 3);
            same(at, "rest(" + x + ", " + y + ", " + what + ")",
                    () -> balls.rest(x, y, what), () -> model.rest(x, y, what));
        } else if (kind < 18) {
            int k = within(0, 3);
            same(at, "touched(" + x + ", " + y + ", " + k + ")",
                    () -> balls.touched(x, y, k), () -> model.touched(x, y, k));
        } else if (kind < 20) {
            int otherX = placeX();
            int otherY = placeY();
            same(at, "higher(" + x + ", " + y + ", " + otherX + ", " + otherY + ")",
                    () -> balls.higher(x, y, otherX, otherY), () -> model.higher(x, y, otherX, otherY));
        } else {
            same(at, "tops()", balls::tops, model::tops);
        }
    }

    private void askPoints(int at, int kind) {
        int x = pointX();
        int y = pointY();
        if (kind < 23) {
            same(at, "hits(" + x + ", " + y + ")", () -> balls.hits(x, y), () -> model.hits(x, y));
        } else if (kind < 25) {
            same(at, "cover(" + x + ", " + y + ")", () -> balls.cover(x, y), () -> model.cover(x, y));
        } else {
            int k = within(0, model.w * model.d);
            same(at, "safe(" + k + ")", () -> balls.safe(k), () -> model.safe(k));
        }
    }

    private void askRods(int at) {
        int kind = random.nextInt(8);
        if (kind < 4) {
            same(at, "choose()", balls::choose, model::choose);
        } else if (kind < 7) {
            putSet(at, random.nextInt(4) == 0 ? random.nextInt() : random.nextInt(16));
        } else {
            same(at, "forget()", balls::forget, model::forget);
        }
    }

    public static void main(String[] args) {
        Check check = new Check();
        for (int seed = 1; seed <= 100 && check.wrong() == 0; seed++) {
            new RandomRunsTest(seed, check).run();
        }
        for (int seed = 1; seed <= 2000 && check.wrong() == 0; seed++) {
            new RandomRunsTest(seed, check).runOfRods();
        }
        for (int seed = 1; seed <= 2000 && check.wrong() == 0; seed++) {
            if (seed % 5 != 0) {
                new RandomRunsTest(seed, check).runOfRodsThatSink();
            }
        }
        check.end();
    }
}
