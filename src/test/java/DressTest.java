import java.util.Arrays;

/** Promise 20 against a search through all ways: the least sum, and of several ways the first one. */
final class DressTest {
    private static final int BARRED = 1000000;
    private static final int WITHOUT = 1000;

    private static long seed = 20261119;

    private DressTest() {
    }

    public static void main(String[] args) {
        for (int run = 0; run < 3000; run++) {
            compare("small house " + run, 1 + below(5), 1 + below(6), false);
        }
        for (int run = 0; run < 60; run++) {
            compare("large house " + run, 20 + below(11), 25 + below(16), true);
        }
        for (int run = 0; run < 30; run++) {
            compare("full house " + run, 30, 40, true);
        }
        Due.end();
    }

    /** A row of numbers that is the same in each run of the test. */
    private static int below(int bound) {
        seed = seed * 6364136223846793005L + 1442695040888963407L;
        return (int) ((seed >>> 33) % bound);
    }

    private static void compare(String what, int wishes, int pieces, boolean large) {
        WardrobeVault v = new WardrobeVault();
        v.show();
        v.scene(0, 1, 0);
        for (int n = 0; n < 10; n++) {
            v.body();
            v.measure(n, 0, 98 + below(5), 98 + below(5), 98 + below(5));
        }
        int layers = large ? 3 : 1 + below(2);
        int[] layerOf = new int[pieces];
        for (int n = 0; n < pieces; n++) {
            layerOf[n] = below(layers);
            v.piece(n / 12, layerOf[n], 0, below(4), below(8) == 0 ? 110 + below(40) : 97 + below(10), 1);
            v.set(n, 'a', below(5) == 0 ? 1 : 0);
        }
        int[] body = new int[wishes];
        int[] layer = new int[wishes];
        int[] colour = new int[wishes];
        for (int n = 0; n < wishes; n++) {
            body[n] = large ? n / 3 : n;
            layer[n] = large ? n % 3 : below(layers);
            colour[n] = below(4);
            v.wish(0, 0, body[n], layer[n], 0, colour[n]);
        }
        int[][] costs = new int[wishes][pieces];
        for (int n = 0; n < wishes; n++) {
            for (int p = 0; p < pieces; p++) {
                costs[n][p] = layer[n] == layerOf[p] ? cost(v, p, body[n], colour[n]) : BARRED;
            }
        }
        check(what, v, costs, large ? firstByForcing(costs, pieces) : firstOfAll(costs, pieces));
        if (large) {
            dressAgain(what + " again", v, costs, pieces);
        }
    }

    /** Nothing of an earlier dressing may be left: some pieces are elsewhere now. */
    private static void dressAgain(String what, WardrobeVault v, int[][] costs, int pieces) {
        for (int p = 0; p < pieces; p += 3) {
            v.quarantine(p);
            for (int[] row : costs) {
                row[p] = BARRED;
            }
        }
        check(what, v, costs, firstByForcing(costs, pieces));
    }

    private static int cost(WardrobeVault v, int piece, int body, int colour) {
        int own = v.told(piece, 'o');
        if (own > colour || own != colour && v.told(piece, 'a') == 1) {
            return BARRED;
        }
        try {
            return v.fitting(piece, body) + (own == colour ? 0 : 90);
        } catch (UnsupportedOperationException thrown) {
            return BARRED;
        }
    }

    private static void check(String what, WardrobeVault v, int[][] costs, int[] due) {
        int sum = 0;
        int[] got = new int[due.length];
        int answer = v.dress(0);
        for (int n = 0; n < due.length; n++) {
            sum += due[n] < 0 ? WITHOUT : costs[n][due[n]];
            try {
                got[n] = v.given(0, n);
            } catch (java.util.NoSuchElementException thrown) {
                got[n] = -1;
            }
        }
        Due.is("20 " + what, answer, sum);
        Due.same("21 " + what, Arrays.toString(got), Arrays.toString(due));
    }

    /** Looks at all ways in the order in which they are preferred. */
    private static int[] firstOfAll(int[][] costs, int pieces) {
        int[] best = new int[costs.length];
        int[] way = new int[costs.length];
        look(costs, pieces, 0, 0, way, best, new boolean[pieces], new int[] {Integer.MAX_VALUE});
        return best;
    }

    private static void look(int[][] costs, int pieces, int row, int sum, int[] way, int[] best,
            boolean[] taken, int[] least) {
        if (row == costs.length) {
            if (sum < least[0]) {
                least[0] = sum;
                System.arraycopy(way, 0, best, 0, way.length);
            }
            return;
        }
        for (int p = 0; p < pieces; p++) {
            if (!taken[p] && costs[row][p] < BARRED) {
                taken[p] = true;
                way[row] = p;
                look(costs, pieces, row + 1, sum + costs[row][p], way, best, taken, least);
                taken[p] = false;
            }
        }
        way[row] = -1;
        look(costs, pieces, row + 1, sum + WITHOUT, way, best, taken, least);
    }

    /** Settles costume by costume: the lowest piece with which the least sum can still be had. */
    private static int[] firstByForcing(int[][] costs, int pieces) {
        int[][] left = new int[costs.length][];
        int[] without = new int[costs.length];
        for (int row = 0; row < costs.length; row++) {
            left[row] = costs[row].clone();
            without[row] = WITHOUT;
        }
        int least = leastSum(left, without, pieces);
        int[] way = new int[costs.length];
        for (int row = 0; row < costs.length; row++) {
            way[row] = -1;
            int[] whole = left[row];
            for (int p = 0; p < pieces && way[row] < 0; p++) {
                if (whole[p] >= BARRED) {
                    continue;
                }
                left[row] = new int[pieces];
                Arrays.fill(left[row], BARRED);
                left[row][p] = whole[p];
                without[row] = BARRED;
                if (leastSum(left, without, pieces) == least) {
                    way[row] = p;
                }
            }
            if (way[row] < 0) {
                left[row] = new int[pieces];
                Arrays.fill(left[row], BARRED);
                without[row] = WITHOUT;
            }
        }
        return way;
    }

    /** The least sum by cheapest chains of changes, one costume after the other. */
    private static int leastSum(int[][] costs, int[] without, int pieces) {
        int rows = costs.length;
        int[] wearer = new int[pieces];
        Arrays.fill(wearer, -1);
        int[] has = new int[rows];
        int sum = 0;
        for (int fresh = 0; fresh < rows; fresh++) {
            int[] far = new int[rows];
            int[] before = new int[rows];
            Arrays.fill(far, Integer.MAX_VALUE);
            far[fresh] = 0;
            boolean moved = true;
            while (moved) {
                moved = false;
                for (int row = 0; row <= fresh; row++) {
                    for (int p = 0; far[row] < Integer.MAX_VALUE && p < pieces; p++) {
                        int loser = wearer[p];
                        if (loser < 0 || loser == row) {
                            continue;
                        }
                        int there = far[row] + costs[row][p] - costs[loser][p];
                        if (there < far[loser]) {
                            far[loser] = there;
                            before[loser] = row;
                            moved = true;
                        }
                    }
                }
            }
            sum += end(costs, without, pieces, wearer, has, far, before, fresh);
        }
        return sum;
    }

    private static int end(int[][] costs, int[] without, int pieces, int[] wearer, int[] has, int[] far,
            int[] before, int fresh) {
        int best = Integer.MAX_VALUE;
        int last = -1;
        int piece = -1;
        for (int row = 0; row <= fresh; row++) {
            if (far[row] == Integer.MAX_VALUE) {
                continue;
            }
            if (far[row] + without[row] < best) {
                best = far[row] + without[row];
                last = row;
                piece = -1;
            }
            for (int p = 0; p < pieces; p++) {
                if (wearer[p] < 0 && far[row] + costs[row][p] < best) {
                    best = far[row] + costs[row][p];
                    last = row;
                    piece = p;
                }
            }
        }
        while (last != fresh) {
            int given = has[last];
            has[last] = piece;
            if (piece >= 0) {
                wearer[piece] = last;
            }
            piece = given;
            last = before[last];
        }
        has[fresh] = piece;
        if (piece >= 0) {
            wearer[piece] = fresh;
        }
        return best;
    }
}
