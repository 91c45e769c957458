import java.util.ArrayList;
import java.util.List;

/**
 * The document's terms, word for word and slowly, with heights compared by squaring: what RandomRunsTest and
 * ExactTest hold the class against.
 */
final class PlainModel {
    /** whole + sqrt(root). */
    record Height(int whole, int root) implements Comparable<Height> {
        @Override
        public int compareTo(Height other) {
            long d = whole - (long) other.whole;
            return d >= 0 ? signOf(d, root, other.root) : -signOf(-d, other.root, root);
        }

        /** The sign of d + sqrt(m) - sqrt(n), d not below 0: that of 2 d sqrt(m) - (n - d d - m). */
        private static int signOf(long d, long m, long n) {
            long right = n - d * d - m;
            return right < 0 ? 1 : Long.compare(4 * d * d * m, right * right);
        }

        /** The greatest k with k + sqrt(less) not above this height. */
        int floorWithout(int less) {
            int k = whole - 20;
            while (new Height(k + 1, less).compareTo(this) <= 0) {
                k++;
            }
            return k;
        }
    }

    record Candidate(int x, int y, int length) {
    }

    final int w;
    final int d;
    final int r;
    private final int[][] heights;
    private int[][] rods;
    private final boolean[][] wanted;
    private final List<Candidate> candidates = new ArrayList<>();
    private Height[][] rests;

    PlainModel(int w, int d, int r) {
        this.w = w < 1 ? 1 : w > 12 ? 12 : w;
        this.d = d < 1 ? 1 : d > 12 ? 12 : d;
        this.r = r < 1 ? 1 : r > 10 ? 10 : r;
        heights = new int[this.d][this.w];
        rods = new int[this.d][this.w];
        wanted = new boolean[this.d][this.w];
        rests = allRests();
    }

    boolean isPoint(int x, int y) {
        return x >= 0 && x < w && y >= 0 && y < d;
    }

    boolean isPlace(int x, int y) {
        return x >= -r && x <= w - 1 + r && y >= -r && y <= d - 1 + r;
    }

    private static void legal(boolean is) {
        if (!is) {
            throw new IllegalArgumentException();
        }
    }

    private Height[][] allRests() {
        Height[][] all = new Height[d + 2 * r][w + 2 * r];
        for (int y = -r; y <= d - 1 + r; y++) {
            for (int x = -r; x <= w - 1 + r; x++) {
                Height least = new Height(r, 0);
                for (int py = 0; py < d; py++) {
                    for (int px = 0; px < w; px++) {
                        Height contact = contact(x, y, px, py);
                        if (contact != null && contact.compareTo(least) > 0) {
                            least = contact;
                        }
                    }
                }
                all[y + r][x + r] = least;
            }
        }
        return all;
    }

    private static int square(int x, int y, int px, int py) {
        return (x - px) * (x - px) + (y - py) * (y - py);
    }

    private Height contact(int x, int y, int px, int py) {
        int s = square(x, y, px, py);
        return s <= r * r ? new Height(heights[py][px] + rods[py][px], r * r - s) : null;
    }

    private Height restAt(int x, int y) {
        return rests[y + r][x + r];
    }

    private boolean isTouched(int x, int y, int px, int py) {
        Height contact = contact(x, y, px, py);
        return contact != null && contact.compareTo(restAt(x, y)) == 0;
    }

    int height(int x, int y, int h) {
        legal(isPoint(x, y) && h >= 0 && h <= 200);
        int was = heights[y][x];
        heights[y][x] = h;
        rests = allRests();
        return was;
    }

    int rod(int x, int y, int length) {
        legal(isPoint(x, y) && length >= 0 && length <= 50);
        int was = rods[y][x];
        rods[y][x] = length;
        rests = allRests();
        return was;
    }

    private List<Integer> touchedAt(int x, int y) {
        List<Integer> numbers = new ArrayList<>();
        for (int py = 0; py < d; py++) {
            for (int px = 0; px < w; px++) {
                if (isTouched(x, y, px, py)) {
                    numbers.add(100 * py + px);
                }
            }
        }
        return numbers;
    }

    int rest(int x, int y, int what) {
        legal(isPlace(x, y) && what >= 0 && what <= 3);
        Height rest = restAt(x, y);
        int floor = rest.floorWithout(0);
        return switch (what) {
            case 0 -> floor;
            case 1 -> rest.compareTo(new Height(floor, 0)) == 0 ? 1 : 0;
            case 2 -> touchedAt(x, y).size();
            default -> rest.compareTo(new Height(r, 0)) == 0 ? 1 : 0;
        };
    }

    int touched(int x, int y, int k) {
        legal(isPlace(x, y) && k >= 0);
        List<Integer> numbers = touchedAt(x, y);
        return k < numbers.size() ? numbers.get(k) : -1;
    }

    int higher(int x, int y, int otherX, int otherY) {
        legal(isPlace(x, y) && isPlace(otherX, otherY));
        return restAt(x, y).compareTo(restAt(otherX, otherY));
    }

    int tops() {
        int count = 0;
        for (Height[] row : rests) {
            for (Height rest : row) {
                boolean top = true;
                for (Height[] otherRow : rests) {
                    for (Height other : otherRow) {
                        top = top && other.compareTo(rest) <= 0;
                    }
                }
                count += top ? 1 : 0;
            }
        }
        return count;
    }

    int hits(int x, int y) {
        legal(isPoint(x, y));
        int count = 0;
        for (int placeY = -r; placeY <= d - 1 + r; placeY++) {
            for (int placeX = -r; placeX <= w - 1 + r; placeX++) {
                count += isTouched(placeX, placeY, x, y) ? 1 : 0;
            }
        }
        return count;
    }

    private List<Integer> safePoints() {
        List<Integer> numbers = new ArrayList<>();
        for (int y = 0; y < d; y++) {
            for (int x = 0; x < w; x++) {
                if (hits(x, y) == 0) {
                    numbers.add(100 * y + x);
                }
            }
        }
        return numbers;
    }

    int safe(int k) {
        legal(k >= 0);
        List<Integer> numbers = safePoints();
        return k < numbers.size() ? numbers.get(k) : -1;
    }

    int cover(int x, int y) {
        legal(isPoint(x, y));
        int least = Integer.MAX_VALUE;
        for (int placeY = -r; placeY <= d - 1 + r; placeY++) {
            for (int placeX = -r; placeX <= w - 1 + r; placeX++) {
                int s = square(placeX, placeY, x, y);
                if (s <= r * r) {
                    least = Math.min(least, restAt(placeX, placeY).floorWithout(r * r - s));
                }
            }
        }
        return least;
    }

    int may(int x, int y, int length) {
        legal(isPoint(x, y) && length >= 1 && length <= 50);
        if (candidates.size() == 4) {
            throw new IllegalStateException();
        }
        candidates.add(new Candidate(x, y, length));
        return candidates.size();
    }

    int forget() {
        int were = candidates.size();
        candidates.clear();
        return were;
    }

    boolean want(int x, int y, boolean on) {
        legal(isPoint(x, y));
        boolean was = wanted[y][x];
        wanted[y][x] = on;
        return was;
    }

    private void putAll(int set) {
        for (int k = 0; k < candidates.size(); k++) {
            if ((set & 1 << k) != 0) {
                Candidate c = candidates.get(k);
                rods[c.y()][c.x()] = c.length();
            }
        }
        rests = allRests();
    }

    private boolean does(int set) {
        int[][] before = new int[d][];
        for (int y = 0; y < d; y++) {
            before[y] = rods[y].clone();
        }
        putAll(set);
        boolean done = true;
        for (int number : hitPoints()) {
            done = done && !wanted[number / 100][number % 100];
        }
        rods = before;
        rests = allRests();
        return done;
    }

    private List<Integer> hitPoints() {
        List<Integer> numbers = new ArrayList<>();
        List<Integer> safe = safePoints();
        for (int y = 0; y < d; y++) {
            for (int x = 0; x < w; x++) {
                if (!safe.contains(100 * y + x)) {
                    numbers.add(100 * y + x);
                }
            }
        }
        return numbers;
    }

    int choose() {
        int best = -1;
        long bestRank = Long.MAX_VALUE;
        for (int set = 0; set < 1 << candidates.size(); set++) {
            long length = 0;
            for (int k = 0; k < candidates.size(); k++) {
                length += (set & 1 << k) != 0 ? candidates.get(k).length() : 0;
            }
            long rank = Integer.bitCount(set) * 1_000_000L + length * 1_000L + set;
            if (rank < bestRank && does(set)) {
                best = set;
                bestRank = rank;
            }
        }
        return best;
    }

    int put(int set) {
        List<Integer> before = safePoints();
        putAll(set);
        List<Integer> after = safePoints();
        int changed = 0;
        for (int number : before) {
            changed += after.contains(number) ? 0 : 1;
        }
        for (int number : after) {
            changed += before.contains(number) ? 0 : 1;
        }
        return changed;
    }
}
