import java.util.Random;

/**
 * changes at its very limits: in small random yards the greatest VALUES behind none, one and two
 * changes are found by trying all of them, and changes is asked for these and for 1 more.
 */
public final class SearchesTest {
    private static final Due DUE = new Due();
    private static final int YARDS = 1500;

    private final Random random;
    private final OneTwoOneTwo x = new OneTwoOneTwo();
    private final int n;
    private final int[] sides;
    private final int[][] wishes;
    /** The greatest VALUE behind 0, 1 and 2 changes at most. */
    private final int[] greatest = new int[3];

    private SearchesTest(long seed) {
        random = new Random(seed);
        n = 2 + random.nextInt(9);
        sides = new int[n];
        wishes = new int[1 + random.nextInt(20)][];
    }

    public static void main(String[] args) {
        for (int seed = 0; seed < YARDS; seed++) {
            new SearchesTest(seed).look(seed);
        }
        DUE.end();
    }

    private void look(int seed) {
        for (int c = 0; c < n; c++) {
            x.child(1, 0);
        }
        x.count(random.nextInt(6), 2 + random.nextInt(4), random.nextInt(14));
        for (int i = 0; i < wishes.length; i++) {
            int p = random.nextInt(n);
            int q = (p + 1 + random.nextInt(n - 1)) % n;
            wishes[i] = new int[] {p, q, random.nextInt(3) == 0 ? 0 : 1, 1 + random.nextInt(99)};
            x.wish(p, q, wishes[i][2] == 1, wishes[i][3]);
        }
        for (int i = 0; i < 5; i++) {
            x.move(random.nextInt(n), random.nextInt(n));
        }
        for (int c = 0; c < n; c++) {
            sides[c] = x.team(0, c);
        }
        tryAll(0);
        greatest[1] = Math.max(greatest[0], greatest[1]);
        greatest[2] = Math.max(greatest[1], greatest[2]);
        for (int k = 0; k < 3; k++) {
            for (int more = 0; more < 2; more++) {
                int v = greatest[k] + more;
                DUE.is("yard " + seed + ": changes(0, " + v + ")", x.changes(0, v), fewest(v));
            }
        }
    }

    private int fewest(int v) {
        for (int k = 0; k < 3; k++) {
            if (greatest[k] >= v) {
                return k;
            }
        }
        return OneTwoOneTwo.NONE;
    }

    private void tryAll(int done) {
        greatest[done] = Math.max(greatest[done], value());
        for (int a = 0; done < 2 && a < n; a++) {
            for (int b = 0; b < a; b++) {
                swapSides(a, b);
                tryAll(done + 1);
                swapSides(a, b);
            }
        }
    }

    private void swapSides(int a, int b) {
        int side = sides[a];
        sides[a] = sides[b];
        sides[b] = side;
    }

    private int value() {
        int sum = 0;
        for (int[] w : wishes) {
            sum += (sides[w[0]] == sides[w[1]]) == (w[2] == 1) ? w[3] : 0;
        }
        return sum;
    }
}
