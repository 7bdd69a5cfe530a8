/** Promises 9 to 19: what the yard is made of, sentence by sentence. */
public final class BoundaryMakingTest extends Boundary {
    public static void main(String[] args) {
        run(BoundaryMakingTest.class);
    }

    private static OneTwoOneTwo fourteen() {
        return children(14, 0);
    }

    private static OneTwoOneTwo sixCounts() {
        OneTwoOneTwo x = children(2, 0);
        for (int kind = 0; kind < 6; kind++) {
            x.count(kind, 2, 0);
        }
        return x;
    }

    private static OneTwoOneTwo twentyWishes() {
        OneTwoOneTwo x = children(3, 0);
        for (int i = 0; i < 20; i++) {
            x.wish(0, 1 + i % 2, i % 2 == 0, 80 + i);
        }
        return x;
    }

    private static OneTwoOneTwo fullTape() {
        OneTwoOneTwo x = empty();
        for (int i = 0; i < 250; i++) {
            x.feed(i < 9 ? "child 9 9".charAt(i) : ' ');
        }
        return x;
    }

    // ---- 9

    @Sentence(of = "Promise 9", says = "A CHILD at the end of the ROW: the number.")
    static void promise09TheNumber() {
        OneTwoOneTwo x = empty();
        due(x.child(99, 9), 0);
        for (int c = 1; c < 14; c++) {
            x.turn();
            due(x.child(1, 0), c);
            due(x.at(c), c);
        }
        x.leaves();
        due(x.child(1, 0), 13);
        due(x.at(13), 13);
    }

    @Sentence(of = "Promise 9", says = "BAD;")
    static void promise09Bad() {
        for (int strong : outside(1, 99)) {
            refused(BAD, Boundary::some, x -> x.child(strong, 0));
            refused(BAD, BoundaryMakingTest::fourteen, x -> x.child(strong, 0));
        }
        for (int step : outside(0, 9)) {
            refused(BAD, Boundary::some, x -> x.child(99, step));
            refused(BAD, BoundaryMakingTest::fourteen, x -> x.child(99, step));
        }
    }

    @Sentence(of = "Promise 9", says = "FULL.")
    static void promise09Full() {
        due(children(13, 0).child(1, 0), 13);
        refused(FULL, BoundaryMakingTest::fourteen, x -> x.child(1, 0));
    }

    // ---- 10

    @Sentence(of = "Promise 10", says = "A COUNT: the number.")
    static void promise10TheNumber() {
        OneTwoOneTwo x = empty();
        int[][] of = {{0, 2, 0}, {5, 5, 13}, {1, 3, 1}, {4, 4, 12}, {2, 2, 13}, {3, 5, 0}};
        for (int c = 0; c < 6; c++) {
            due(x.count(of[c][0], of[c][1], of[c][2]), c);
        }
        for (int c = 0; c < 6; c++) {
            for (int what = 0; what < 3; what++) {
                due(x.countOf(c, what), of[c][what]);
            }
        }
    }

    @Sentence(of = "Promise 10", says = "BAD;")
    static void promise10Bad() {
        for (int kind : outside(0, 5)) {
            refused(BAD, Boundary::some, x -> x.count(kind, 2, 0));
            refused(BAD, BoundaryMakingTest::sixCounts, x -> x.count(kind, 2, 0));
        }
        for (int n : outside(2, 5)) {
            refused(BAD, Boundary::some, x -> x.count(0, n, 0));
            refused(BAD, BoundaryMakingTest::sixCounts, x -> x.count(0, n, 0));
        }
        for (int a : outside(0, 13)) {
            refused(BAD, Boundary::some, x -> x.count(0, 2, a));
            refused(BAD, BoundaryMakingTest::sixCounts, x -> x.count(0, 2, a));
        }
    }

    @Sentence(of = "Promise 10", says = "FULL.")
    static void promise10Full() {
        refused(FULL, BoundaryMakingTest::sixCounts, x -> x.count(0, 2, 0));
        refused(FULL, BoundaryMakingTest::sixCounts, x -> x.count(5, 5, 13));
    }

    // ---- 11

    @Sentence(of = "Promise 11", says = "A WISH (together, or not): how many there are.")
    static void promise11HowManyThereAre() {
        OneTwoOneTwo x = children(14, 0);
        due(x.wish(0, 13, true, 1), 1);
        due(x.wish(13, 0, false, 99), 2);
        int[][] want = {{0, 13, 1, 1}, {13, 0, 0, 99}};
        for (int i = 0; i < 2; i++) {
            for (int what = 0; what < 4; what++) {
                due(x.wishOf(i, what), want[i][what]);
            }
        }
        for (int i = 3; i <= 20; i++) {
            due(x.wish(0, 13, true, 1), i);
        }
    }

    @Sentence(of = "Promise 11", says = "BAD: also the same CHILD")
    static void promise11Bad() {
        for (int child : outside(0, 4)) {
            refused(BAD, Boundary::some, x -> x.wish(child, 0, true, 1));
            refused(BAD, Boundary::some, x -> x.wish(0, child, true, 1));
        }
        for (int worth : outside(1, 99)) {
            refused(BAD, Boundary::some, x -> x.wish(0, 1, false, worth));
        }
        refused(BAD, Boundary::some, x -> x.wish(0, 0, true, 1));
        refused(BAD, Boundary::some, x -> x.wish(4, 4, false, 99));
        refused(BAD, BoundaryMakingTest::twentyWishes, x -> x.wish(1, 1, true, 1));
        refused(BAD, BoundaryMakingTest::twentyWishes, x -> x.wish(0, 3, true, 1));
        refused(BAD, BoundaryMakingTest::twentyWishes, x -> x.wish(0, 1, true, 100));
        refused(BAD, Boundary::empty, x -> x.wish(0, 1, true, 1));
    }

    @Sentence(of = "Promise 11", says = "FULL.")
    static void promise11Full() {
        refused(FULL, BoundaryMakingTest::twentyWishes, x -> x.wish(0, 1, true, 1));
        refused(FULL, BoundaryMakingTest::twentyWishes, x -> x.wish(2, 1, false, 99));
    }

    // ---- 12

    @Sentence(of = "Promise 12", says = "No WISHES any more: how many there were.")
    static void promise12NoWishesAnyMore() {
        answers(0, Boundary::empty, x -> x.content());
        OneTwoOneTwo x = twentyWishes();
        due(x.content(), 20);
        due(x.status(2), 0);
        due(x.status(3), 0);
        due(x.childOf(0, 3), 0);
        due(x.wishOf(0, 0), BAD);
        due(x.content(), 0);
        due(x.wish(0, 1, true, 5), 1);
        due(x.content(), 1);
    }

    // ---- 13

    @Sentence(of = "Promise 13", says = "THE TAPE gets one byte (0 to 255) behind it: its size.")
    static void promise13OneByte() {
        OneTwoOneTwo x = empty();
        due(x.feed(0), 1);
        due(x.feed(255), 2);
        due(x.yard(), -20);
        for (int i = 1; i <= 9; i++) {
            due(x.feed("child 7 8".charAt(i - 1)), i);
        }
        due(x.yard(), 1);
        due(x.childOf(0, 0), 7);
        due(x.childOf(0, 1), 8);
    }

    @Sentence(of = "Promise 13", says = "BAD;")
    static void promise13Bad() {
        for (int letter : outside(0, 255)) {
            refused(BAD, Boundary::some, x -> x.feed(letter));
            refused(BAD, BoundaryMakingTest::fullTape, x -> x.feed(letter));
        }
    }

    @Sentence(of = "Promise 13", says = "FULL.")
    static void promise13Full() {
        refused(FULL, BoundaryMakingTest::fullTape, x -> x.feed(0));
        refused(FULL, BoundaryMakingTest::fullTape, x -> x.feed(255));
        OneTwoOneTwo x = fullTape();
        x.wipe();
        due(x.feed(0), 1);
    }

    // ---- 14

    @Sentence(of = "Promise 14", says = "THE TAPE is empty: its size ahead.")
    static void promise14TheTapeIsEmpty() {
        answers(0, Boundary::empty, x -> x.wipe());
        OneTwoOneTwo x = fullTape();
        due(x.wipe(), 250);
        due(x.status(5), 0);
        due(x.wipe(), 0);
        due(x.yard(), -20);
        due(x.status(0), 0);
        x.feed(' ');
        due(x.wipe(), 1);
    }

    // ---- 15

    @Sentence(of = "Promise 15", says = "THE TAPE is a YARD: how many STATEMENTS")
    static void promise15HowManyStatements() {
        due(read(empty(), "child 1 0"), 1);
        due(read(empty(), "child 1 0;child 1 0;swap 0 1;swap 0 1;move 0 0;move 1 0"), 6);
        due(read(children(1, 0), "move0 0" + ";move0 0".repeat(30)), 31);
    }

    @Sentence(of = "Promise 15", says = "-20 less the FAULT (that is refused, too: BAD).")
    static void promise15AFaultIsRefused() {
        fault(0, Boundary::some, "");
        fault(0, Boundary::some, "x");
        fault(6, Boundary::some, "child 0 0");
        fault(249, Boundary::empty, "child 9 9" + " ".repeat(240) + "x");
        OneTwoOneTwo x = fullTape();
        x.wipe();
        due(x.yard(), -20);
        due(x.status(12), 1);
        due(sumOfRefusals(x), 1);
    }

    private static int sumOfRefusals(OneTwoOneTwo x) {
        int sum = 0;
        for (int what = 12; what <= 16; what++) {
            sum += x.status(what);
        }
        return sum;
    }

    @Sentence(of = "Promise 15", says = "THE TAPE is empty then, either way.")
    static void promise15TheTapeIsEmptyThen() {
        OneTwoOneTwo x = empty();
        due(read(x, "child 1 0"), 1);
        due(x.status(5), 0);
        due(x.yard(), -20);
        due(read(x, "child 1 0;"), -30);
        due(x.status(5), 0);
        due(read(x, "child 1 0"), 1);
        due(x.status(0), 2);
    }

    // ---- 16

    @Sentence(of = "Promise 16", says = "Of a CHILD: STRONG (0), STEP (1), PLACE (2), how many WISHES it is in (3).")
    static void promise16OfAChild() {
        OneTwoOneTwo x = twentyWishes();
        x.turn();
        int[][] want = {{1, 0, 2, 20}, {2, 0, 1, 10}, {3, 0, 0, 10}};
        for (int c = 0; c < 3; c++) {
            for (int what = 0; what < 4; what++) {
                due(x.childOf(c, what), want[c][what]);
            }
        }
        answers(0, () -> children(1, 9), y -> y.childOf(0, 3));
        answers(2, Boundary::some, y -> y.childOf(0, 3));
        answers(1, Boundary::some, y -> y.childOf(1, 3));
        answers(1, Boundary::some, y -> y.childOf(4, 3));
    }

    @Sentence(of = "Promise 16", says = "BAD.")
    static void promise16Bad() {
        for (int child : outside(0, 4)) {
            refused(BAD, Boundary::some, x -> x.childOf(child, 0));
        }
        for (int what : outside(0, 3)) {
            refused(BAD, Boundary::some, x -> x.childOf(0, what));
        }
        refused(BAD, Boundary::empty, x -> x.childOf(0, 0));
    }

    // ---- 17

    @Sentence(of = "Promise 17", says = "Of a COUNT: KIND (0), N (1), a (2).")
    static void promise17OfACount() {
        OneTwoOneTwo x = empty();
        x.count(5, 5, 13);
        x.count(0, 2, 0);
        int[][] want = {{5, 5, 13}, {0, 2, 0}};
        for (int c = 0; c < 2; c++) {
            for (int what = 0; what < 3; what++) {
                due(x.countOf(c, what), want[c][what]);
            }
        }
    }

    @Sentence(of = "Promise 17", says = "BAD.")
    static void promise17Bad() {
        for (int count : outside(0, 2)) {
            refused(BAD, Boundary::some, x -> x.countOf(count, 0));
        }
        for (int what : outside(0, 2)) {
            refused(BAD, Boundary::some, x -> x.countOf(0, what));
        }
        refused(BAD, BoundaryMakingTest::sixCounts, x -> x.countOf(6, 0));
        refused(BAD, Boundary::empty, x -> x.countOf(0, 0));
    }

    // ---- 18

    @Sentence(of = "Promise 18", says = "Of a WISH: the first (0), the second (1), TOGETHER (2; 1, 0), WORTH (3).")
    static void promise18OfAWish() {
        OneTwoOneTwo x = twentyWishes();
        int[][] want = {{0, 1, 1, 80}, {0, 2, 0, 99}};
        for (int what = 0; what < 4; what++) {
            due(x.wishOf(0, what), want[0][what]);
            due(x.wishOf(19, what), want[1][what]);
        }
    }

    @Sentence(of = "Promise 18", says = "BAD.")
    static void promise18Bad() {
        for (int i : outside(0, 2)) {
            refused(BAD, Boundary::some, x -> x.wishOf(i, 0));
        }
        for (int what : outside(0, 3)) {
            refused(BAD, Boundary::some, x -> x.wishOf(0, what));
        }
        refused(BAD, BoundaryMakingTest::twentyWishes, x -> x.wishOf(20, 0));
        refused(BAD, Boundary::empty, x -> x.wishOf(0, 0));
    }

    // ---- 19

    @Sentence(of = "Promise 19", says = "Who stands at a PLACE.")
    static void promise19FirstAndLastPlace() {
        answers(0, Boundary::some, x -> x.at(0));
        answers(4, Boundary::some, x -> x.at(1));
        answers(3, Boundary::some, x -> x.at(4));
        answers(13, BoundaryMakingTest::fourteen, x -> x.at(13));
    }

    @Sentence(of = "Promise 19", says = "BAD.")
    static void promise19Bad() {
        for (int place : outside(0, 4)) {
            refused(BAD, Boundary::some, x -> x.at(place));
        }
        refused(BAD, BoundaryMakingTest::fourteen, x -> x.at(14));
        refused(BAD, Boundary::empty, x -> x.at(0));
    }
}
