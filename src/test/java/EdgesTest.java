import java.util.ArrayList;
import java.util.List;

/** The edges that the document names for points, places and the ball (promises 1 to 10): a method for each sentence. */
public final class EdgesTest {
    private static final int LEAST = Integer.MIN_VALUE;
    private static final int MOST = Integer.MAX_VALUE;
    private static final int NONE = RollingBalls.NONE;
    private static final int MOST_RADIUS = 10;
    private static final int MOST_HEIGHT = 200;
    private static final int MOST_ROD = 50;
    private static final int MOST_TIP = 250;
    private static final Check CHECK = new Check();

    // ---- promise 1, and what is so at first

    private static void sizeIs(String name, RollingBalls b, int w, int d, int r) {
        CHECK.due(name + ": R", b.rest(0, 0, 0), r);
        CHECK.due(name + ": how many places", b.tops(), (w + 2 * r) * (d + 2 * r));
        CHECK.due(name + ": the last point", b.hits(w - 1, d - 1), 1);
        CHECK.illegalArgument(name + ": no point at W", () -> b.hits(w, 0));
        CHECK.illegalArgument(name + ": no point at D", () -> b.hits(0, d));
        CHECK.due(name + ": the first place", b.rest(-r, -r, 3), 1);
        CHECK.due(name + ": the last place", b.rest(w - 1 + r, d - 1 + r, 3), 1);
        CHECK.illegalArgument(name + ": no place before -R across", () -> b.rest(-r - 1, 0, 0));
        CHECK.illegalArgument(name + ": no place before -R along", () -> b.rest(0, -r - 1, 0));
        CHECK.illegalArgument(name + ": no place at W + R", () -> b.rest(w + r, 0, 0));
        CHECK.illegalArgument(name + ": no place at D + R", () -> b.rest(0, d + r, 0));
    }

    /** "W, D (below 1 count as 1, above 12 as 12)". */
    private static void pointsAcrossAndAlong() {
        int[][] askedAndDue = {
            {LEAST, 1}, {-12, 1}, {-1, 1}, {0, 1}, {1, 1}, {2, 2}, {11, 11}, {12, 12}, {13, 12}, {256 + 5, 12},
            {65536 + 5, 12}, {MOST, 12},
        };
        for (int[] pair : askedAndDue) {
            sizeIs("1: W " + pair[0], new RollingBalls(pair[0], 4, 2), pair[1], 4, 2);
            sizeIs("1: D " + pair[0], new RollingBalls(3, pair[0], 2), 3, pair[1], 2);
        }
    }

    /** "R (below 1 counts as 1, above 10 as 10)". */
    private static void radius() {
        int[][] askedAndDue = {
            {LEAST, 1}, {-10, 1}, {-1, 1}, {0, 1}, {1, 1}, {2, 2}, {9, 9}, {10, 10}, {11, 10}, {12, 10},
            {256 + 5, 10}, {65536 + 5, 10}, {MOST, 10},
        };
        for (int[] pair : askedAndDue) {
            sizeIs("1: R " + pair[0], new RollingBalls(3, 4, pair[0]), 3, 4, pair[1]);
        }
    }

    /** "a HEIGHT (0 .. 200; 0 at first) and a ROD (0 .. 50 long; 0 at first)"; nothing is wanted, no candidates. */
    private static void atFirst() {
        RollingBalls b = new RollingBalls(12, 12, 10);
        for (int y = 0; y < 12; y++) {
            for (int x = 0; x < 12; x++) {
                CHECK.due("2: height at first", b.height(x, y, 0), 0);
                CHECK.due("3: rod at first", b.rod(x, y, 0), 0);
                CHECK.due("13: wanted at first", b.want(x, y, false), false);
            }
        }
        CHECK.due("12: candidates at first", b.forget(), 0);
        CHECK.due("14: choose at first", b.choose(), 0);
    }

    // ---- promises 2 and 3

    /** "A point's height: what it was": from each end of the bounds to the other, and to itself. */
    private static void whatTheHeightWas() {
        RollingBalls b = new RollingBalls(12, 12, 10);
        int was = 0;
        for (int h : new int[] {0, 200, 200, 199, 0, 1, 1, 200, 0}) {
            CHECK.due("2: the last point's height was", b.height(11, 11, h), was);
            CHECK.due("2: its ball is at", b.rest(11, 11, 0), h + 10);
            was = h;
        }
        CHECK.due("2: the rod is not the height", b.rod(11, 11, 0), 0);
        CHECK.due("2: the first point's height was", b.height(0, 0, 0), 0);
    }

    /** "A point's rod: how long it was": from each end of the bounds to the other, and to itself. */
    private static void howLongTheRodWas() {
        RollingBalls b = new RollingBalls(12, 12, 10);
        int was = 0;
        for (int length : new int[] {0, 50, 50, 49, 0, 1, 1, 50, 0}) {
            CHECK.due("3: the last point's rod was", b.rod(11, 11, length), was);
            CHECK.due("3: its ball is at", b.rest(11, 11, 0), length + 10);
            was = length;
        }
        CHECK.due("3: the height is not the rod", b.height(11, 11, 0), 0);
        CHECK.due("3: the first point's rod was", b.rod(0, 0, 0), 0);
    }

    /** "both together are its TIP": 0, each alone at its most, both at their most. */
    private static void bothTogether() {
        for (int r = 1; r <= MOST_RADIUS; r++) {
            RollingBalls b = new RollingBalls(1, 1, r);
            CHECK.due("2: no tip", b.rest(0, 0, 0), r);
            b.rod(0, 0, MOST_ROD);
            CHECK.due("3: the longest rod", b.rest(0, 0, 0), MOST_ROD + r);
            b.height(0, 0, MOST_HEIGHT);
            CHECK.due("3: the highest tip", b.rest(0, 0, 0), MOST_TIP + r);
            CHECK.due("3: its cover", b.cover(0, 0), MOST_TIP);
            b.rod(0, 0, 0);
            CHECK.due("2: the greatest height", b.rest(0, 0, 0), MOST_HEIGHT + r);
            b.height(0, 0, 0);
            CHECK.due("2: no tip again", b.rest(0, 0, 0), r);
        }
    }

    // ---- promise 4

    /** "At a place the ball's centre is as low as can be: at R (it lies on the ground)". */
    private static void onTheGround() {
        for (int r = 1; r <= MOST_RADIUS; r++) {
            RollingBalls b = new RollingBalls(1, 1, r);
            for (int x = -r; x <= r; x++) {
                String name = "4: on the ground, R " + r + ", at " + x + " ";
                CHECK.due(name + "rest", b.rest(x, r, 0), r);
                CHECK.due(name + "whole", b.rest(x, r, 1), 1);
                CHECK.due(name + "no point", b.rest(x, r, 2), 0);
                CHECK.due(name + "the ground", b.rest(x, r, 3), 1);
                CHECK.due(name + "nothing touched", b.touched(x, r, 0), NONE);
            }
        }
    }

    /** "if that is R * R or less": the highest tip is felt at just these places. */
    private static void withinTheRadius() {
        for (int r = 1; r <= MOST_RADIUS; r++) {
            RollingBalls b = new RollingBalls(1, 1, r);
            b.height(0, 0, MOST_HEIGHT);
            b.rod(0, 0, MOST_ROD);
            int within = 0;
            for (int y = -r; y <= r; y++) {
                for (int x = -r; x <= r; x++) {
                    boolean reached = x * x + y * y <= r * r;
                    CHECK.due("4: R " + r + ", reached at " + x + ", " + y, b.rest(x, y, 2), reached ? 1 : 0);
                    within += reached ? 1 : 0;
                }
            }
            CHECK.due("4: R " + r + ", just at R", b.rest(r, 0, 0), MOST_TIP);
            CHECK.due("4: R " + r + ", a step beside", b.rest(r, 1, 0), r);
            CHECK.due("8: R " + r + ", hits", b.hits(0, 0), within);
        }
    }

    private static int rootOf(int square) {
        int root = 0;
        while ((root + 1) * (root + 1) <= square) {
            root++;
        }
        return root;
    }

    /** Rest, whole and touched at all places to one side of a tip, by whole numbers alone. */
    private static void oneTip(int r, int tip) {
        RollingBalls b = new RollingBalls(1, 1, r);
        b.height(0, 0, tip);
        for (int y = 0; y <= r; y++) {
            for (int x = 0; x <= r; x++) {
                int left = r * r - x * x - y * y;
                int toGround = r - tip;
                int over = left < 0 ? -1 : toGround < 0 ? 1 : Integer.compare(left, toGround * toGround);
                String name = "R " + r + ", tip " + tip + ", at " + x + ", " + y;
                CHECK.due("4: rest, " + name, b.rest(x, y, 0), over > 0 ? tip + rootOf(left) : r);
                CHECK.due("4: whole, " + name, b.rest(x, y, 1),
                        over <= 0 || rootOf(left) * rootOf(left) == left ? 1 : 0);
                CHECK.due("4: points, " + name, b.rest(x, y, 2), over >= 0 ? 1 : 0);
                CHECK.due("4: the ground, " + name, b.rest(x, y, 3), over <= 0 ? 1 : 0);
            }
        }
    }

    /** "its REST, rounded down, 1 whether that is a whole number (1), 2 how many points are touched, 3 ..". */
    private static void restsOfOneTip() {
        for (int r = 1; r <= MOST_RADIUS; r++) {
            for (int tip = 0; tip <= r + 2; tip++) {
                oneTip(r, tip);
            }
            oneTip(r, MOST_HEIGHT);
        }
    }

    // ---- promise 5

    private static List<int[]> stepsOf(int r) {
        List<int[]> steps = new ArrayList<>();
        for (int along = 0; along <= r; along++) {
            for (int across = along; across <= r; across++) {
                if (across * across + along * along <= r * r) {
                    steps.add(new int[] {across, along});
                }
            }
        }
        return steps;
    }

    private static PlainModel.Height levelOf(int r, int[] step, int tip) {
        return new PlainModel.Height(tip, r * r - step[0] * step[0] - step[1] * step[1]);
    }

    /** The ball over (0, 0) and two tips that it nearly touches, or just touches, both at once. */
    private static void twoTips(int r, int[] step, int tip, int[] other, int otherTip) {
        RollingBalls b = new RollingBalls(12, 12, r);
        b.height(step[0], step[1], tip);
        b.height(other[0], other[1], otherTip);
        int order = levelOf(r, step, tip).compareTo(levelOf(r, other, otherTip));
        int number = 100 * step[1] + step[0];
        int otherNumber = 100 * other[1] + other[0];
        int first = order > 0 ? number : order < 0 ? otherNumber : Math.min(number, otherNumber);
        String name = "5: R " + r + ", tips " + tip + " at " + number + ", " + otherTip + " at " + otherNumber;
        CHECK.due(name + ": how many", b.rest(0, 0, 2), order == 0 ? 2 : 1);
        CHECK.due(name + ": the first", b.touched(0, 0, 0), first);
        CHECK.due(name + ": the second", b.touched(0, 0, 1), order == 0 ? Math.max(number, otherNumber) : NONE);
    }

    /** "A point is TOUCHED at a place if this is just its TIP + sqrt(R * R - s)": no hair less. */
    private static void justTouched() {
        for (int r = 1; r <= MOST_RADIUS; r++) {
            List<int[]> steps = stepsOf(r);
            for (int[] step : steps) {
                for (int[] other : steps) {
                    double apart = Math.sqrt(levelOf(r, other, 0).root()) - Math.sqrt(levelOf(r, step, 0).root());
                    int whole = (int) Math.round(apart);
                    if (step != other && whole >= 0 && Math.abs(apart - whole) < 0.02) {
                        twoTips(r, step, 20 + whole, other, 20);
                    }
                }
            }
        }
    }

    /** How high a tip must be to be touched at (5, 5), in steps over the one right below; -1 where a root is in it. */
    private static int overTheMiddle(int x, int y) {
        int square = (x - 5) * (x - 5) + (y - 5) * (y - 5);
        return square == 0 ? 0 : square == 9 ? 1 : square == 16 ? 2 : square == 25 ? 5 : -1;
    }

    /** "The k-th point that is touched at a place (by y, then x): its number; NONE": 21 points at once. */
    private static void manyTouched(int middle) {
        RollingBalls b = new RollingBalls(11, 11, 5);
        List<Integer> due = new ArrayList<>();
        for (int x = 10; x >= 0; x--) {
            for (int y = 0; y < 11; y++) {
                if (overTheMiddle(x, y) >= 0) {
                    b.height(x, y, middle + overTheMiddle(x, y));
                    due.add(100 * y + x);
                }
            }
        }
        due.sort(null);
        CHECK.due("4: points touched at once", b.rest(5, 5, 2), 21);
        CHECK.due("4: the ground with them", b.rest(5, 5, 3), middle == 0 ? 1 : 0);
        for (int k = 0; k < due.size(); k++) {
            CHECK.due("5: touched, k " + k, b.touched(5, 5, k), due.get(k));
        }
        for (int k : new int[] {21, 22, 121, 256, 65536, MOST}) {
            CHECK.due("5: touched, k " + k, b.touched(5, 5, k), NONE);
        }
    }

    /** "A point's NUMBER is 100 * y + x": the greatest one. */
    private static void theGreatestNumber() {
        RollingBalls b = new RollingBalls(12, 12, 10);
        CHECK.due("5: the last point alone", b.touched(11, 11, 0), 1111);
        CHECK.due("5: no second", b.touched(11, 11, 1), NONE);
        b.height(5, 5, MOST_HEIGHT);
        CHECK.due("9: the last safe point", b.safe(142), 1111);
    }

    // ---- promises 6 and 7

    /** "1 if the first one's REST is the greater one, 0 if both are alike, -1". */
    private static void twoPlaces() {
        RollingBalls b = new RollingBalls(12, 12, 10);
        CHECK.due("6: the corners of all places", b.higher(-10, -10, 21, 21), 0);
        CHECK.due("6: the other corners", b.higher(21, -10, -10, 21), 0);
        b.height(2, 6, 2);
        CHECK.due("6: a place and itself, with a root", b.higher(1, 5, 1, 5), 0);
        CHECK.due("6: on the ground and just as high on a tip", b.higher(8, 6, 21, 21), 0);
        b.height(0, 0, 102);
        b.height(11, 11, 100);
        CHECK.due("6: 102 + root 60 is less than 100 + root 95", b.higher(-2, -6, 12, 13), -1);
        CHECK.due("6: and the other way round", b.higher(12, 13, -2, -6), 1);
        b.height(0, 0, MOST_HEIGHT);
        b.rod(0, 0, MOST_ROD);
        CHECK.due("6: the highest tip and the ground", b.higher(0, 0, -10, -10), 1);
        CHECK.due("6: the ground and the highest tip", b.higher(-10, -10, 0, 0), -1);
    }

    /** "The greatest REST of all is that of how many places": all, one, and as many as there are points. */
    private static void howManyTops() {
        RollingBalls small = new RollingBalls(1, 1, 1);
        CHECK.due("7: all of the fewest places", small.tops(), 9);
        small.height(0, 0, 1);
        CHECK.due("7: one of the fewest places", small.tops(), 1);
        RollingBalls large = new RollingBalls(12, 12, 10);
        CHECK.due("7: all of the most places", large.tops(), 1024);
        int raised = 0;
        for (int point = 0; point < 144; point++) {
            large.height(point % 12, point / 12, MOST_HEIGHT);
            raised++;
            CHECK.due("7: as many as the highest tips", large.tops(), raised);
        }
        large.rod(11, 11, 1);
        CHECK.due("7: the one that is higher still", large.tops(), 1);
        large.rod(11, 11, 0);
        CHECK.due("7: all alike again", large.tops(), 144);
    }

    // ---- promises 8 and 9

    /** "A point is HIT if it is touched at a place, else SAFE": one place is enough, if others are touched too. */
    private static void hitAtOnePlace() {
        RollingBalls b = new RollingBalls(4, 1, 5);
        b.height(0, 0, 1);
        CHECK.due("8: tip 1, point and ground are touched", b.rest(3, 0, 2) + b.rest(3, 0, 3), 3);
        CHECK.due("8: at one place", b.hits(3, 0), 1);
        CHECK.due("8: nearer ones at none", b.hits(1, 0) + b.hits(2, 0), 0);
        CHECK.due("9: the last one that is safe", b.safe(1), 2);
        CHECK.due("9: the one that is hit is not", b.safe(2), NONE);
        b.height(0, 0, 2);
        CHECK.due("8: a higher tip lifts the ball off", b.hits(3, 0), 0);
        CHECK.due("9: so it is safe", b.safe(2), 3);
    }

    /** "The k-th SAFE point (by y, then x): its number; NONE": none, and all but one. */
    private static void noneAndAllButOne() {
        RollingBalls b = new RollingBalls(12, 12, 10);
        for (int k : new int[] {0, 1, 143, 144, MOST}) {
            CHECK.due("9: none is safe, k " + k, b.safe(k), NONE);
        }
        b.rod(5, 5, MOST_ROD);
        int k = 0;
        for (int point = 0; point < 144; point++) {
            if (point != 5 * 12 + 5) {
                CHECK.due("9: all but one, k " + k, b.safe(k), point / 12 * 100 + point % 12);
                k++;
            }
        }
        for (int beyond : new int[] {143, 144, 145, 256, 65536, MOST}) {
            CHECK.due("9: all but one, k " + beyond, b.safe(beyond), NONE);
        }
        RollingBalls lone = new RollingBalls(1, 1, 1);
        CHECK.due("9: a lone point", lone.safe(0), NONE);
        lone.height(0, 0, MOST_HEIGHT);
        CHECK.due("9: a lone point, raised", lone.safe(0), NONE);
    }

    // ---- promise 10

    /** "The COVER of a point is the least of REST - sqrt(R * R - s)": a lone point's is its tip, at every height. */
    private static void coverOfALonePoint() {
        for (int r = 1; r <= MOST_RADIUS; r++) {
            RollingBalls b = new RollingBalls(1, 1, r);
            for (int h = 0; h <= MOST_HEIGHT; h++) {
                b.height(0, 0, h);
                CHECK.due("10: R " + r + ", a lone point of height " + h, b.cover(0, 0), h);
            }
        }
    }

    /**
     * "over all places whose square of distance from it, s, is R * R or less": of all these, tips on three sides leave
     * only the one just at R on the fourth side to a ball on the ground.
     */
    private static void coverAtTheRadius() {
        for (int r = 1; r <= MOST_RADIUS; r++) {
            RollingBalls b = new RollingBalls(2, 3, r);
            b.height(0, 1, MOST_HEIGHT);
            b.height(1, 0, MOST_HEIGHT);
            b.height(1, 2, MOST_HEIGHT);
            CHECK.due("10: R " + r + ", the place just at R", b.cover(1, 1), r);
            b.height(1, 1, r);
            CHECK.due("10: R " + r + ", as high as its cover", b.cover(1, 1), r);
            CHECK.due("8: R " + r + ", so it is touched there alone", b.hits(1, 1), 1);
            b.height(1, 1, r - 1);
            CHECK.due("10: R " + r + ", lower than its cover", b.cover(1, 1), r);
            CHECK.due("8: R " + r + ", so it is safe", b.hits(1, 1), 0);
            b.height(1, 1, r + 1);
            CHECK.due("10: R " + r + ", higher than its cover was", b.cover(1, 1), r + 1);
        }
    }

    private static void coverIs(int x, int y, int due, int[][] heights) {
        RollingBalls b = new RollingBalls(12, 12, 10);
        for (int[] each : heights) {
            b.height(each[0], each[1], each[2]);
        }
        CHECK.due("10: cover of (" + x + ", " + y + "), rounded down", b.cover(x, y), due);
    }

    /** "COVER of a point, rounded down": it is 1.9992, 3.0008, just 4. */
    private static void coverRoundedDown() {
        coverIs(4, 6, 1, new int[][] {{11, 10, 8}, {1, 10, 4}, {4, 1, 2}});
        coverIs(2, 5, 3, new int[][] {{2, 10, 1}, {4, 8, 2}, {1, 1, 13}, {3, 1, 6}});
        coverIs(0, 0, 4, new int[][] {{0, 0, 4}, {3, 0, 3}});
    }

    public static void main(String[] args) {
        pointsAcrossAndAlong();
        radius();
        atFirst();
        whatTheHeightWas();
        howLongTheRodWas();
        bothTogether();
        onTheGround();
        withinTheRadius();
        restsOfOneTip();
        justTouched();
        manyTouched(0);
        manyTouched(10);
        theGreatestNumber();
        twoPlaces();
        howManyTops();
        hitAtOnePlace();
        noneAndAllButOne();
        coverOfALonePoint();
        coverAtTheRadius();
        coverRoundedDown();
        CHECK.end();
    }
}
