/** The edges that the document names for candidates, wanted points and sets (promises 11 to 15). */
public final class RodEdgesTest {
    private static final int LEAST = Integer.MIN_VALUE;
    private static final int MOST = Integer.MAX_VALUE;
    private static final int NONE = RollingBalls.NONE;
    private static final int MOST_CANDIDATES = 4;
    private static final Check CHECK = new Check();

    private static int rodAt(RollingBalls b, int x, int y) {
        int length = b.rod(x, y, 0);
        b.rod(x, y, length);
        return length;
    }

    // ---- promises 11 and 12

    /** "CANDIDATES are up to 4 rods": four, again and again after forget, and no room is made by choose and put. */
    private static void upToFour() {
        RollingBalls b = new RollingBalls(5, 1, 1);
        for (int time = 0; time < 3; time++) {
            for (int count = 1; count <= MOST_CANDIDATES; count++) {
                CHECK.due("11: how many there are", b.may(count, 0, count), count);
            }
            CHECK.illegalState("11: there are 4", () -> b.may(0, 0, 1));
            b.choose();
            CHECK.illegalState("11: there are 4 after choose", () -> b.may(0, 0, 1));
            b.put(-1);
            CHECK.illegalState("11: there are 4 after put", () -> b.may(0, 0, 1));
            CHECK.due("12: how many there were", b.forget(), MOST_CANDIDATES);
        }
    }

    /** "A candidate, of a length (1 .. 50)": both ends are put as they are. */
    private static void shortestAndLongest() {
        for (int length : new int[] {1, 50}) {
            RollingBalls b = new RollingBalls(12, 12, 10);
            CHECK.due("11: length " + length, b.may(11, 11, length), 1);
            b.put(1);
            CHECK.due("11: it is " + length + " long", rodAt(b, 11, 11), length);
        }
    }

    /** "There are no candidates: how many there were": 0 .. 4, and what they were is neither put nor chosen. */
    private static void forgetEach() {
        for (int were = 0; were <= MOST_CANDIDATES; were++) {
            RollingBalls b = new RollingBalls(5, 1, 1);
            for (int k = 0; k < were; k++) {
                b.may(2, 0, 9);
            }
            CHECK.due("12: there were " + were, b.forget(), were);
            CHECK.due("12: there are none", b.forget(), 0);
            b.want(1, 0, true);
            CHECK.due("12: none to choose from " + were, b.choose(), NONE);
            CHECK.due("12: none to put of " + were, b.put(-1), 0);
            CHECK.due("12: no rod by " + were, rodAt(b, 2, 0), 0);
            CHECK.due("12: the next one is the first", b.may(2, 0, 8), 1);
            CHECK.due("12: and counts 1", b.choose(), 1);
            CHECK.due("12: it alone is put", b.put(-1), 2);
            CHECK.due("12: it is 8 long", rodAt(b, 2, 0), 8);
        }
    }

    private static void forgetLeavesRods() {
        RollingBalls b = new RollingBalls(5, 1, 1);
        b.may(2, 0, 9);
        b.put(1);
        CHECK.due("12: after put", b.forget(), 1);
        CHECK.due("12: a rod that was put stays", rodAt(b, 2, 0), 9);
    }

    // ---- promise 13

    /** "A point is wanted, or not: whether it was": each of the four ways, at the first and the last point. */
    private static void wantedOrNot() {
        RollingBalls b = new RollingBalls(12, 12, 10);
        boolean[] ways = {false, true, true, false, false, true};
        boolean was = false;
        for (boolean on : ways) {
            CHECK.due("13: the first point was", b.want(0, 0, on), was);
            CHECK.due("13: the last point was", b.want(11, 11, on), was);
            was = on;
        }
        CHECK.due("13: the one beside", b.want(10, 11, false), false);
        b.may(0, 0, 1);
        b.choose();
        b.put(1);
        b.forget();
        CHECK.due("13: it is until it is not", b.want(0, 0, false), true);
        CHECK.due("13: so is the other", b.want(11, 11, true), true);
    }

    // ---- promise 14

    /** "A set of candidates DOES if, with these rods put, all wanted points are safe": none are wanted, and all. */
    private static void noneWantedAndAll() {
        for (int count = 0; count <= MOST_CANDIDATES; count++) {
            RollingBalls b = new RollingBalls(3, 3, 1);
            for (int k = 0; k < count; k++) {
                b.may(k % 3, k / 3, 5);
            }
            CHECK.due("14: none wanted, candidates " + count, b.choose(), 0);
            for (int point = 0; point < 9; point++) {
                b.want(point % 3, point / 3, true);
            }
            CHECK.due("14: all wanted, candidates " + count, b.choose(), NONE);
            for (int point = 0; point < 9; point++) {
                b.want(point % 3, point / 3, false);
            }
            CHECK.due("14: none wanted again, candidates " + count, b.choose(), 0);
        }
    }

    /** A lone point is always hit. */
    private static void aLonePointWanted() {
        RollingBalls b = new RollingBalls(1, 1, 10);
        CHECK.due("14: a lone point, not wanted", b.choose(), 0);
        b.want(0, 0, true);
        CHECK.due("14: a lone point, wanted", b.choose(), NONE);
        b.may(0, 0, 1);
        b.may(0, 0, 50);
        CHECK.due("14: a lone point, wanted, with candidates", b.choose(), NONE);
    }

    /** "The set of fewest candidates that does": wanted points so far apart that each needs a candidate. */
    private static void fewest() {
        for (int need = 0; need <= MOST_CANDIDATES; need++) {
            RollingBalls b = new RollingBalls(12, 1, 1);
            for (int k = 0; k < MOST_CANDIDATES; k++) {
                b.may(3 * k, 0, 9);
            }
            for (int k = 0; k < need; k++) {
                b.want(3 * k + 1, 0, true);
            }
            CHECK.due("14: fewest: " + need, b.choose(), (1 << need) - 1);
        }
    }

    /** "of several the one with the least length in all": 50 + 1 is more than 49 + 1, 9 + 9 less than 1 + 18. */
    private static void leastLength() {
        int[][] lengthsAndDue = {
            {50, 49, 2, 2, 2 + 4}, {49, 50, 2, 2, 1 + 4}, {9, 9, 9, 8, 1 + 8}, {50, 50, 50, 50, 1 + 4},
            {49, 50, 50, 49, 1 + 8}, {50, 2, 50, 49, 2 + 8},
        };
        for (int[] row : lengthsAndDue) {
            RollingBalls b = new RollingBalls(12, 1, 1);
            b.want(1, 0, true);
            b.want(7, 0, true);
            b.may(0, 0, row[0]);
            b.may(2, 0, row[1]);
            b.may(6, 0, row[2]);
            b.may(8, 0, row[3]);
            CHECK.due("14: lengths " + row[0] + ", " + row[1] + ", " + row[2] + ", " + row[3], b.choose(), row[4]);
        }
    }

    /** Fewest goes before least length: one rod of 50 before two of 2. */
    private static void fewestBeforeLength() {
        RollingBalls b = new RollingBalls(5, 1, 1);
        b.want(1, 0, true);
        b.want(3, 0, true);
        b.may(0, 0, 2);
        b.may(4, 0, 2);
        CHECK.due("14: two of 2", b.choose(), 3);
        b.may(2, 0, 50);
        CHECK.due("14: one of 50", b.choose(), 4);
    }

    /** "of these the least one as a number (candidate k counts 2^k)": 2 + 4 is less than 1 + 8. */
    private static void leastNumber() {
        RollingBalls b = new RollingBalls(9, 1, 6);
        b.height(4, 0, 3);
        b.want(2, 0, true);
        b.want(4, 0, true);
        b.want(6, 0, true);
        b.may(1, 0, 4);
        b.may(1, 0, 8);
        b.may(7, 0, 4);
        b.may(7, 0, 8);
        CHECK.due("14: a short and a long one, either way", b.choose(), 2 + 4);
        b.rod(1, 0, 4);
        CHECK.due("14: the long one on the other side", b.choose(), 8);
        b.rod(1, 0, 0);
        b.rod(7, 0, 4);
        CHECK.due("14: the long one on this side", b.choose(), 2);
        for (int count = 1; count <= MOST_CANDIDATES; count++) {
            RollingBalls alike = new RollingBalls(3, 1, 1);
            alike.want(1, 0, true);
            for (int k = 0; k < count; k++) {
                alike.may(2 * (k % 2), 0, 5);
            }
            CHECK.due("14: alike candidates, " + count, alike.choose(), 1);
        }
    }

    /** "NONE if none does": one wanted point that all the sets leave to be hit. */
    private static void noneDoes() {
        RollingBalls b = new RollingBalls(12, 1, 1);
        b.want(11, 0, true);
        CHECK.due("14: no candidates", b.choose(), NONE);
        for (int k = 0; k < MOST_CANDIDATES; k++) {
            b.may(k, 0, 50);
            CHECK.due("14: none reaches it", b.choose(), NONE);
        }
        b.forget();
        b.may(10, 0, 1);
        CHECK.due("14: just touched still", b.choose(), NONE);
        b.may(10, 0, 2);
        CHECK.due("14: just not", b.choose(), 2);
    }

    private static RollingBalls withLongAndShortRods() {
        RollingBalls b = new RollingBalls(3, 2, 2);
        b.height(1, 0, 2);
        b.rod(1, 0, 9);
        b.rod(0, 1, 3);
        b.may(1, 0, 1);
        b.may(0, 1, 20);
        b.may(2, 1, 15);
        b.may(2, 1, 2);
        return b;
    }

    /** "Nothing is put": neither by a choice, nor where none does, and candidates and wanted points stay. */
    private static void nothingIsPut() {
        for (int wanted = 0; wanted < 1 << 6; wanted++) {
            RollingBalls asked = withLongAndShortRods();
            RollingBalls other = withLongAndShortRods();
            for (int point = 0; point < 6; point++) {
                boolean on = (wanted >> point & 1) == 1;
                asked.want(point % 3, point / 3, on);
                other.want(point % 3, point / 3, on);
            }
            asked.choose();
            CHECK.due("14: nothing is put, wanted " + wanted,
                    Snapshot.of(asked, 3, 2, 2).equals(Snapshot.of(other, 3, 2, 2)), true);
        }
    }

    /** "(in place of the rod that is there)", not on top of it: a shorter one, the same one, a longer one. */
    private static void inPlaceOfTheRod() {
        for (int length : new int[] {1, 19, 20, 21, 50}) {
            RollingBalls b = new RollingBalls(3, 1, 10);
            b.height(2, 0, 100);
            b.rod(2, 0, 20);
            b.may(2, 0, length);
            b.put(1);
            CHECK.due("15: " + length + " in place of 20", b.rest(2, 0, 0), 110 + length);
            CHECK.due("15: the rod is", b.rod(2, 0, 0), length);
            CHECK.due("15: the height stays", b.height(2, 0, 0), 100);
        }
        RollingBalls b = new RollingBalls(2, 1, 1);
        b.rod(0, 0, 1);
        b.want(1, 0, true);
        b.may(0, 0, 1);
        CHECK.due("14: 1 in place of 1 is not 2", b.choose(), NONE);
        b.may(0, 0, 2);
        CHECK.due("14: 2 in place of 1", b.choose(), 2);
    }

    // ---- promise 15

    private static final int[] LENGTHS_OF_ONE = {5, 2, 9, 1};

    private static void mayAllOfOnePoint(RollingBalls b) {
        for (int length : LENGTHS_OF_ONE) {
            b.may(1, 0, length);
        }
    }

    /** "(Of two candidates of one point in a set the later one counts.)": in each set of four of them. */
    private static void theLaterOneCounts() {
        for (int set = 0; set < 1 << MOST_CANDIDATES; set++) {
            RollingBalls b = new RollingBalls(3, 1, 10);
            b.rod(1, 0, 7);
            mayAllOfOnePoint(b);
            int due = 7;
            for (int k = 0; k < MOST_CANDIDATES; k++) {
                due = (set >> k & 1) == 1 ? LENGTHS_OF_ONE[k] : due;
            }
            b.put(set);
            CHECK.due("15: the later one of " + set, rodAt(b, 1, 0), due);
        }
        RollingBalls b = new RollingBalls(3, 1, 1);
        b.rod(0, 0, 2);
        b.may(0, 0, 1);
        b.may(0, 0, 2);
        CHECK.due("15: only what is so in the end is counted", b.put(3), 0);
        RollingBalls both = new RollingBalls(12, 1, 10);
        both.height(11, 0, 3);
        both.want(11, 0, true);
        both.may(0, 0, 20);
        both.may(0, 0, 30);
        CHECK.due("14: 20 and 30 of one point are not 50", both.choose(), NONE);
    }

    private static RollingBalls withCandidates(int count) {
        RollingBalls b = new RollingBalls(2, 2, 1);
        b.rod(1, 1, 2);
        for (int k = 0; k < count; k++) {
            b.may(k % 2, k / 2, 3 + k);
        }
        return b;
    }

    /** "bits above them are not asked": with 0 .. 4 candidates, by each bit above, and by all of them. */
    private static void bitsAbove() {
        for (int count = 0; count <= MOST_CANDIDATES; count++) {
            int all = (1 << count) - 1;
            for (int bit = count; bit < 32; bit++) {
                setIs(count, 1 << bit, 0);
                setIs(count, 1 << bit | all, all);
            }
            setIs(count, ~all, 0);
            setIs(count, -1, all);
            setIs(count, MOST, all);
            setIs(count, LEAST, 0);
            setIs(count, LEAST + all, all);
        }
    }

    private static void setIs(int candidates, int set, int due) {
        RollingBalls b = withCandidates(candidates);
        RollingBalls other = withCandidates(candidates);
        String name = "15: set " + set + " of " + candidates + " candidates";
        CHECK.due(name, b.put(set), other.put(due));
        CHECK.due(name + " puts what " + due + " puts",
                Snapshot.of(b, 2, 2, 1).equals(Snapshot.of(other, 2, 2, 1)), true);
    }

    /** "how many points were safe before and are not, or the other way round": none, both ways at once, 143. */
    private static void howManyPoints() {
        RollingBalls b = new RollingBalls(12, 12, 10);
        b.may(5, 5, 50);
        b.may(5, 5, 1);
        b.may(11, 11, 50);
        CHECK.due("15: the empty set", b.put(0), 0);
        CHECK.due("15: all but one become safe", b.put(1), 143);
        CHECK.due("15: once more", b.put(1), 0);
        CHECK.due("15: the far corner is not safe", b.put(4), 1);
        CHECK.due("15: those out of both rods' reach become not safe", b.put(2), countOutOfReach());
        RollingBalls row = new RollingBalls(5, 1, 1);
        row.rod(2, 0, 3);
        row.may(3, 0, 9);
        CHECK.due("15: one becomes safe and one not", row.put(1), 2);
    }

    /** The points that lie over 10 from (11, 11), and not under a ball of R 10 on a tip of 1 at (5, 5). */
    private static int countOutOfReach() {
        int count = 0;
        for (int y = 0; y < 12; y++) {
            for (int x = 0; x < 12; x++) {
                boolean far = (11 - x) * (11 - x) + (11 - y) * (11 - y) > 10 * 10;
                boolean under = (5 - x) * (5 - x) + (5 - y) * (5 - y) < 10 * 10 - 9 * 9;
                count += far && !under ? 1 : 0;
            }
        }
        return count;
    }

    public static void main(String[] args) {
        upToFour();
        shortestAndLongest();
        forgetEach();
        forgetLeavesRods();
        wantedOrNot();
        noneWantedAndAll();
        aLonePointWanted();
        fewest();
        leastLength();
        fewestBeforeLength();
        leastNumber();
        noneDoes();
        nothingIsPut();
        inPlaceOfTheRod();
        theLaterOneCounts();
        bitsAbove();
        howManyPoints();
        CHECK.end();
    }
}
