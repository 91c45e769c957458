/** Each promise of the document by hand: ordinary calls, the edges that it names, and wrong calls. */
public final class PromisesTest {
    private static final int LEAST = Integer.MIN_VALUE;
    private static final int MOST = Integer.MAX_VALUE;
    private static final Check CHECK = new Check();

    private static void newObject() {
        for (int small : new int[] {LEAST, -1, 0, 1}) {
            RollingBalls b = new RollingBalls(small, small, small);
            CHECK.due("1: tops of 1 x 1, R 1", b.tops(), 9);
            CHECK.due("1: rest with R 1", b.rest(0, 0, 0), 1);
            CHECK.due("1: 1 x 1 has a point", b.height(0, 0, 0), 0);
            CHECK.illegalArgument("1: 1 x 1 has no point (1, 0)", () -> b.height(1, 0, 0));
            CHECK.illegalArgument("1: 1 x 1 has no point (0, 1)", () -> b.height(0, 1, 0));
        }
        int[][] large = {{12, 12, 10}, {13, 13, 11}, {MOST, MOST, MOST}};
        for (int[] size : large) {
            RollingBalls b = new RollingBalls(size[0], size[1], size[2]);
            CHECK.due("1: tops of 12 x 12, R 10", b.tops(), 32 * 32);
            CHECK.due("1: rest with R 10", b.rest(0, 0, 0), 10);
            CHECK.due("1: 12 x 12 has a last point", b.height(11, 11, 0), 0);
            CHECK.illegalArgument("1: 12 x 12 has no point (12, 0)", () -> b.height(12, 0, 0));
            CHECK.illegalArgument("1: 12 x 12 has no point (0, 12)", () -> b.height(0, 12, 0));
        }
        RollingBalls b = new RollingBalls(3, 5, 2);
        CHECK.due("1: tops of 3 x 5, R 2", b.tops(), 7 * 9);
        CHECK.due("1: no rod at first", b.rod(2, 4, 0), 0);
        CHECK.illegalArgument("1: W is 3", () -> b.rod(3, 0, 0));
        CHECK.illegalArgument("1: D is 5", () -> b.rod(0, 5, 0));
        CHECK.due("1: no candidates at first", b.forget(), 0);
        CHECK.due("1: nothing is wanted at first", b.choose(), 0);
        CHECK.due("1: nothing is safe at first", b.safe(0), RollingBalls.NONE);
    }

    private static void height() {
        RollingBalls b = new RollingBalls(3, 2, 5);
        CHECK.due("2: height at first", b.height(2, 1, 200), 0);
        CHECK.due("2: it lifts the ball", b.rest(2, 1, 0), 205);
        CHECK.illegalArgument("2: height -1", () -> b.height(2, 1, -1));
        CHECK.illegalArgument("2: height 201", () -> b.height(2, 1, 201));
        CHECK.illegalArgument("2: least height", () -> b.height(2, 1, LEAST));
        CHECK.illegalArgument("2: most height", () -> b.height(2, 1, MOST));
        int[][] none = {{-1, 0}, {3, 0}, {0, -1}, {0, 2}, {LEAST, 0}, {0, MOST}, {MOST, LEAST}};
        for (int[] p : none) {
            CHECK.illegalArgument("2: no point " + p[0] + ", " + p[1], () -> b.height(p[0], p[1], 1));
        }
        CHECK.due("2: refused calls change nothing", b.height(2, 1, 7), 200);
        CHECK.due("2: down to the ground again", b.height(2, 1, 0), 7);
        CHECK.due("2: and the ball with it", b.rest(2, 1, 0), 5);
        CHECK.due("2: other points stay", b.height(1, 1, 3), 0);
    }

    private static void rod() {
        RollingBalls b = new RollingBalls(2, 3, 5);
        CHECK.due("3: rod at first", b.rod(1, 2, 50), 0);
        b.height(1, 2, 200);
        CHECK.due("3: height and rod are the tip", b.rest(1, 2, 0), 255);
        CHECK.illegalArgument("3: rod -1", () -> b.rod(1, 2, -1));
        CHECK.illegalArgument("3: rod 51", () -> b.rod(1, 2, 51));
        CHECK.illegalArgument("3: least rod", () -> b.rod(1, 2, LEAST));
        CHECK.illegalArgument("3: most rod", () -> b.rod(1, 2, MOST));
        int[][] none = {{-1, 0}, {2, 0}, {0, -1}, {0, 3}, {LEAST, 0}, {0, MOST}};
        for (int[] p : none) {
            CHECK.illegalArgument("3: no point " + p[0] + ", " + p[1], () -> b.rod(p[0], p[1], 1));
        }
        CHECK.due("3: refused calls change nothing", b.rod(1, 2, 0), 50);
        CHECK.due("3: the height stays", b.rest(1, 2, 0), 205);
        CHECK.due("3: no rod", b.rod(1, 2, 9), 0);
    }

    private static void restIs(RollingBalls b, int x, int y, int... due) {
        for (int what = 0; what < 4; what++) {
            CHECK.due("4: rest(" + x + ", " + y + ", " + what + ")", b.rest(x, y, what), due[what]);
        }
    }

    private static void rest() {
        RollingBalls b = new RollingBalls(1, 1, 5);
        restIs(b, 0, 0, 5, 1, 1, 1);
        restIs(b, 1, 0, 5, 1, 0, 1);
        b.height(0, 0, 8);
        restIs(b, 0, 0, 13, 1, 1, 0);
        restIs(b, 3, 3, 10, 0, 1, 0);
        restIs(b, 3, -4, 8, 1, 1, 0);
        restIs(b, -5, 0, 8, 1, 1, 0);
        restIs(b, 4, 4, 5, 1, 0, 1);
        b.height(0, 0, 1);
        restIs(b, 0, -3, 5, 1, 1, 1);
        restIs(b, 0, 4, 5, 1, 0, 1);
        restIs(b, 2, 2, 5, 0, 1, 0);
        b.height(0, 0, 5);
        restIs(b, 4, 3, 5, 1, 1, 1);
        CHECK.illegalArgument("4: what -1", () -> b.rest(0, 0, -1));
        CHECK.illegalArgument("4: what 4", () -> b.rest(0, 0, 4));
        int[][] none = {{-6, 0}, {6, 0}, {0, -6}, {0, 6}, {LEAST, 0}, {0, LEAST}, {MOST, 0}, {0, MOST}};
        for (int[] p : none) {
            CHECK.illegalArgument("4: no place " + p[0] + ", " + p[1], () -> b.rest(p[0], p[1], 0));
        }
        RollingBalls longer = new RollingBalls(4, 2, 1);
        restIs(longer, 4, 2, 1, 1, 0, 1);
        CHECK.illegalArgument("4: beyond W - 1 + R", () -> longer.rest(5, 0, 0));
        CHECK.illegalArgument("4: beyond D - 1 + R", () -> longer.rest(0, 3, 0));
    }

    private static void touched() {
        RollingBalls b = new RollingBalls(3, 3, 5);
        for (int corner = 0; corner < 4; corner++) {
            b.height(corner % 2 * 2, corner / 2 * 2, 8);
        }
        int[] due = {0, 2, 200, 202, RollingBalls.NONE};
        for (int k = 0; k < due.length; k++) {
            CHECK.due("5: touched(1, 1, " + k + ")", b.touched(1, 1, k), due[k]);
        }
        CHECK.due("5: far too great a k", b.touched(1, 1, MOST), RollingBalls.NONE);
        CHECK.due("5: none at a far place", b.touched(-5, -5, 0), RollingBalls.NONE);
        CHECK.illegalArgument("5: k -1", () -> b.touched(1, 1, -1));
        CHECK.illegalArgument("5: least k", () -> b.touched(1, 1, LEAST));
        CHECK.illegalArgument("5: no such place", () -> b.touched(-6, 1, 0));
        CHECK.illegalArgument("5: no such place", () -> b.touched(1, 8, 0));
        RollingBalls other = new RollingBalls(4, 5, 5);
        other.height(3, 0, 8);
        other.height(0, 4, 9);
        CHECK.due("5: 8 + 4", other.touched(0, 0, 0), 3);
        CHECK.due("5: 9 + 3", other.touched(0, 0, 1), 400);
        CHECK.due("5: no third", other.touched(0, 0, 2), RollingBalls.NONE);
    }

    private static void higher() {
        RollingBalls b = new RollingBalls(5, 5, 5);
        CHECK.due("6: on the ground", b.higher(-5, 9, 4, 4), 0);
        b.height(2, 2, 8);
        CHECK.due("6: nearer", b.higher(2, 2, 3, 2), 1);
        CHECK.due("6: less near", b.higher(3, 2, 2, 2), -1);
        CHECK.due("6: as near", b.higher(3, 2, 2, 1), 0);
        CHECK.due("6: 3, 4 and 5, 0 away", b.higher(-1, -2, 2, -3), 0);
        CHECK.due("6: both round down to 12", b.higher(3, 2, 3, 3), 1);
        CHECK.illegalArgument("6: no first place", () -> b.higher(-6, 0, 0, 0));
        CHECK.illegalArgument("6: no first place", () -> b.higher(0, 10, 0, 0));
        CHECK.illegalArgument("6: no second place", () -> b.higher(0, 0, 10, 0));
        CHECK.illegalArgument("6: no second place", () -> b.higher(0, 0, 0, LEAST));
    }

    private static void tops() {
        RollingBalls b = new RollingBalls(4, 1, 3);
        CHECK.due("7: flat", b.tops(), 10 * 7);
        b.height(0, 0, 4);
        CHECK.due("7: one top", b.tops(), 1);
        b.rod(3, 0, 4);
        CHECK.due("7: two tops", b.tops(), 2);
        b.height(3, 0, 1);
        CHECK.due("7: a higher one", b.tops(), 1);
        b.height(3, 0, 0);
        b.rod(3, 0, 0);
        b.height(0, 0, 0);
        CHECK.due("7: flat again", b.tops(), 10 * 7);
    }

    private static void hits() {
        RollingBalls b = new RollingBalls(1, 1, 5);
        int[][] due = {{0, 1}, {1, 29}, {2, 49}, {5, 81}, {8, 81}};
        for (int[] pair : due) {
            b.height(0, 0, pair[0]);
            CHECK.due("8: hits at height " + pair[0], b.hits(0, 0), pair[1]);
        }
        RollingBalls two = new RollingBalls(2, 1, 1);
        two.height(0, 0, 3);
        CHECK.due("8: under the other's ball", two.hits(1, 0), 0);
        CHECK.due("8: the other", two.hits(0, 0), 5);
        int[][] none = {{-1, 0}, {2, 0}, {0, -1}, {0, 1}, {LEAST, 0}, {0, MOST}};
        for (int[] p : none) {
            CHECK.illegalArgument("8: no point " + p[0] + ", " + p[1], () -> two.hits(p[0], p[1]));
        }
    }

    private static void hitsAre(RollingBalls b, String when, int first, int last) {
        CHECK.due("8: the first of two, " + when, b.hits(0, 0), first);
        CHECK.due("8: the last of two, " + when, b.hits(2, 0), last);
    }

    /** Two points that are both touched at the nine places midway between them. */
    private static void hitsOfTwo() {
        RollingBalls b = new RollingBalls(3, 1, 5);
        b.height(0, 0, 8);
        hitsAre(b, "one high", 81, 0);
        b.height(2, 0, 8);
        hitsAre(b, "alike", 55, 55);
        CHECK.due("8: both touched", b.rest(1, 0, 2), 2);
        b.height(0, 0, 18);
        hitsAre(b, "the first far higher", 81, 20);
        CHECK.due("8: one touched", b.rest(1, 0, 2), 1);
        b.height(0, 0, 8);
        hitsAre(b, "alike again", 55, 55);
        b.height(2, 0, 18);
        hitsAre(b, "the last far higher", 20, 81);
        b.height(2, 0, 8);
        b.height(0, 0, 0);
        hitsAre(b, "the first on the ground", 0, 81);
        CHECK.due("8: the last touched", b.touched(1, 0, 0), 2);
        b.height(2, 0, 0);
        hitsAre(b, "both on the ground", 1, 1);
    }

    private static void safe() {
        RollingBalls b = new RollingBalls(3, 2, 5);
        CHECK.due("9: all are hit", b.safe(0), RollingBalls.NONE);
        b.height(1, 0, 8);
        int[] due = {0, 2, 100, 101, 102, RollingBalls.NONE};
        for (int k = 0; k < due.length; k++) {
            CHECK.due("9: safe(" + k + ")", b.safe(k), due[k]);
        }
        CHECK.due("9: far too great a k", b.safe(MOST), RollingBalls.NONE);
        CHECK.illegalArgument("9: k -1", () -> b.safe(-1));
        CHECK.illegalArgument("9: least k", () -> b.safe(LEAST));
        b.height(1, 0, 0);
        CHECK.due("9: all are hit again", b.safe(0), RollingBalls.NONE);
    }

    private static void cover() {
        RollingBalls b = new RollingBalls(2, 1, 1);
        CHECK.due("10: flat", b.cover(0, 0), 0);
        b.height(0, 0, 3);
        CHECK.due("10: a tip covers up to itself", b.cover(0, 0), 3);
        CHECK.due("10: beside it, from a place that does not reach it", b.cover(1, 0), 1);
        RollingBalls wide = new RollingBalls(5, 5, 5);
        wide.height(2, 2, 8);
        CHECK.due("10: one step away, rounded down", wide.cover(2, 3), 2);
        CHECK.due("10: at the corner", wide.cover(4, 4), 0);
        wide.height(4, 2, 8);
        CHECK.due("10: between two", wide.cover(3, 2), 5);
        wide.height(3, 2, 7);
        CHECK.due("10: never below the point's own tip", wide.cover(3, 2), 7);
        int[][] none = {{-1, 0}, {2, 0}, {0, -1}, {0, 1}, {MOST, 0}, {0, LEAST}};
        for (int[] p : none) {
            CHECK.illegalArgument("10: no point " + p[0] + ", " + p[1], () -> b.cover(p[0], p[1]));
        }
    }

    private static void may() {
        RollingBalls b = new RollingBalls(3, 2, 5);
        CHECK.illegalArgument("11: length 0", () -> b.may(0, 0, 0));
        CHECK.illegalArgument("11: length 51", () -> b.may(0, 0, 51));
        CHECK.illegalArgument("11: least length", () -> b.may(0, 0, LEAST));
        CHECK.illegalArgument("11: no point", () -> b.may(3, 0, 1));
        CHECK.illegalArgument("11: no point", () -> b.may(0, -1, 1));
        CHECK.due("11: first", b.may(0, 0, 1), 1);
        CHECK.due("11: second, of the same point", b.may(0, 0, 50), 2);
        CHECK.due("11: third", b.may(2, 1, 7), 3);
        CHECK.due("11: fourth", b.may(2, 1, 7), 4);
        CHECK.illegalState("11: fifth", () -> b.may(1, 1, 1));
        CHECK.illegalArgument("11: fifth, of a wrong length", () -> b.may(1, 1, 51));
        CHECK.illegalArgument("11: fifth, of no point", () -> b.may(1, 2, 1));
        CHECK.due("11: nothing was put", b.rod(0, 0, 0), 0);
        CHECK.due("11: there are 4 still", b.forget(), 4);
    }

    private static void forget() {
        RollingBalls b = new RollingBalls(3, 1, 5);
        CHECK.due("12: none", b.forget(), 0);
        b.may(0, 0, 9);
        b.may(1, 0, 9);
        b.want(2, 0, true);
        CHECK.due("12: one does", b.choose(), 1);
        CHECK.due("12: two", b.forget(), 2);
        CHECK.due("12: none again", b.forget(), 0);
        CHECK.due("12: forgotten ones do nothing", b.choose(), RollingBalls.NONE);
        CHECK.due("12: nor are they put", b.put(3), 0);
        CHECK.due("12: counting from the start", b.may(2, 0, 1), 1);
        CHECK.due("12: what is wanted stays", b.want(2, 0, true), true);
    }

    private static void want() {
        RollingBalls b = new RollingBalls(3, 2, 5);
        CHECK.due("13: not at first", b.want(2, 1, true), false);
        CHECK.due("13: it was", b.want(2, 1, true), true);
        CHECK.due("13: hit and wanted", b.choose(), RollingBalls.NONE);
        CHECK.illegalArgument("13: no point", () -> b.want(3, 1, false));
        CHECK.illegalArgument("13: no point", () -> b.want(2, 2, false));
        CHECK.illegalArgument("13: no point", () -> b.want(-1, 1, true));
        CHECK.illegalArgument("13: no point", () -> b.want(0, LEAST, true));
        CHECK.due("13: it was still", b.want(2, 1, false), true);
        CHECK.due("13: no more", b.want(2, 1, false), false);
        CHECK.due("13: nothing wanted", b.choose(), 0);
        CHECK.due("13: others never were", b.want(1, 1, false), false);
    }

    private static void choose() {
        RollingBalls b = new RollingBalls(5, 1, 1);
        b.want(1, 0, true);
        b.want(3, 0, true);
        CHECK.due("14: no candidates", b.choose(), RollingBalls.NONE);
        b.may(0, 0, 2);
        CHECK.due("14: too few", b.choose(), RollingBalls.NONE);
        b.may(4, 0, 2);
        CHECK.due("14: both", b.choose(), 3);
        b.may(2, 0, 50);
        CHECK.due("14: one long one before two short ones", b.choose(), 4);
        b.may(2, 0, 40);
        CHECK.due("14: the shorter one", b.choose(), 8);
        CHECK.due("14: nothing is put", b.rod(2, 0, 40), 0);
        CHECK.due("14: no rod is needed", b.choose(), 0);
        b.rod(2, 0, 0);
        CHECK.due("14: candidates stay", b.forget(), 4);

        b.may(2, 0, 1);
        CHECK.due("14: touched as well as the ground is", b.choose(), RollingBalls.NONE);
        b.may(2, 0, 9);
        b.may(2, 0, 9);
        CHECK.due("14: of two alike the least as a number", b.choose(), 2);
        b.rod(2, 0, 2);
        b.want(2, 0, true);
        CHECK.due("14: a rod's own point is hit", b.choose(), RollingBalls.NONE);
    }

    private static void chooseInPlaceOfARod() {
        RollingBalls b = new RollingBalls(3, 1, 1);
        b.height(1, 0, 2);
        b.rod(1, 0, 5);
        b.want(1, 0, true);
        b.may(0, 0, 9);
        b.may(1, 0, 1);
        CHECK.due("14: no rod that stays keeps it safe", b.choose(), RollingBalls.NONE);
        b.may(2, 0, 9);
        CHECK.due("14: from both sides only, but not along", b.choose(), RollingBalls.NONE);
        RollingBalls wide = new RollingBalls(3, 1, 10);
        wide.rod(1, 0, 50);
        wide.want(1, 0, true);
        wide.may(0, 0, 50);
        wide.may(1, 0, 1);
        CHECK.due("14: a shorter rod in place of the long one", wide.choose(), 3);
        CHECK.due("14: the long one is there still", wide.rod(1, 0, 50), 50);
    }

    private static void chooseWhatShelters() {
        RollingBalls b = new RollingBalls(12, 1, 10);
        b.rod(3, 0, 50);
        b.want(3, 0, true);
        b.may(0, 0, 50);
        b.may(3, 0, 1);
        CHECK.due("14: another rod, and a shorter one in place of its own", b.choose(), 3);
        b.want(11, 0, true);
        CHECK.due("14: but only the long one shelters a far point", b.choose(), RollingBalls.NONE);
        b.may(9, 0, 40);
        CHECK.due("14: a rod for the far point too", b.choose(), 7);
        b.may(5, 0, 30);
        CHECK.due("14: one rod that does both", b.choose(), 10);
        b.want(3, 0, false);
        CHECK.due("14: what is wanted is safe", b.choose(), 0);
    }

    private static void chooseNotToRaise() {
        RollingBalls b = new RollingBalls(12, 1, 10);
        b.rod(0, 0, 50);
        b.want(2, 0, true);
        CHECK.due("14: sheltered", b.choose(), 0);
        b.want(11, 0, true);
        b.may(2, 0, 10);
        CHECK.due("14: the rod that saves the one has the other hit", b.choose(), RollingBalls.NONE);
        b.may(3, 0, 20);
        CHECK.due("14: so a longer one", b.choose(), 2);
        b.want(2, 0, false);
        CHECK.due("14: the shorter one", b.choose(), 1);
    }

    /** A set with two candidates of one point cannot have the good of both. */
    private static void chooseOneOfAPoint() {
        int[][] lengths = {{1, 50}, {50, 1}};
        for (int[] pair : lengths) {
            RollingBalls b = new RollingBalls(12, 1, 10);
            b.rod(0, 0, 50);
            b.want(3, 0, true);
            b.want(11, 0, true);
            b.may(3, 0, pair[0]);
            b.may(3, 0, pair[1]);
            CHECK.due("14: short for the one, long for the other", b.choose(), RollingBalls.NONE);
            b.want(3, 0, false);
            CHECK.due("14: long", b.choose(), pair[0] == 50 ? 1 : 2);
        }
    }

    /** (1, 0) is safe with a rod of 9 if (2, 0) has one of 3, and with a rod of 3 anyway. */
    private static void chooseTheLeastNumber() {
        for (int first = 1; first <= 2; first++) {
            RollingBalls b = new RollingBalls(3, 1, 10);
            b.height(0, 0, 200);
            b.height(2, 0, 5);
            b.rod(1, 0, 9);
            b.want(1, 0, true);
            CHECK.due("14: hit from one side", b.choose(), RollingBalls.NONE);
            b.may(first, 0, 3);
            CHECK.due("14: one that does", b.choose(), 1);
            b.may(3 - first, 0, 3);
            CHECK.due("14: of two that do the least as a number", b.choose(), 1);
            b.forget();
            b.may(first, 0, 4);
            b.may(3 - first, 0, 3);
            CHECK.due("14: of two that do the shorter one", b.choose(), 2);
        }
    }

    private static void put() {
        RollingBalls b = new RollingBalls(5, 1, 1);
        CHECK.due("15: no candidates", b.put(-1), 0);
        b.may(2, 0, 2);
        b.may(2, 0, 1);
        CHECK.due("15: the empty set", b.put(0), 0);
        CHECK.due("15: bits above", b.put(~3), 0);
        CHECK.due("15: no rod yet", b.rod(2, 0, 0), 0);
        CHECK.due("15: two are safe", b.put(1), 2);
        CHECK.due("15: the first", b.safe(0), 1);
        CHECK.due("15: the second", b.safe(1), 3);
        CHECK.due("15: once more", b.put(1), 0);
        CHECK.due("15: two are not", b.put(2), 2);
        CHECK.due("15: none is", b.safe(0), RollingBalls.NONE);
        CHECK.due("15: the rod that is there now", b.rod(2, 0, 1), 1);
        CHECK.due("15: the later one counts", b.put(LEAST + 3), 0);
        CHECK.due("15: it is 1 long", b.rod(2, 0, 0), 1);
        CHECK.due("15: candidates stay", b.forget(), 2);

        b.may(3, 0, 9);
        b.rod(2, 0, 3);
        CHECK.due("15: 1 and 3 are safe", b.safe(1), 3);
        CHECK.due("15: one the one way, one the other", b.put(MOST), 2);
        CHECK.due("15: 1 is safe still", b.safe(0), 1);
        CHECK.due("15: 4 is safe now, 3 is not", b.safe(1), 4);
    }

    public static void main(String[] args) {
        newObject();
        height();
        rod();
        rest();
        touched();
        higher();
        tops();
        hits();
        hitsOfTwo();
        safe();
        cover();
        may();
        forget();
        want();
        choose();
        chooseInPlaceOfARod();
        chooseWhatShelters();
        chooseNotToRaise();
        chooseOneOfAPoint();
        chooseTheLeastNumber();
        put();
        CHECK.end();
    }
}
