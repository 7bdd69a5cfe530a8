/** Promises 48 to 59: changes told and done, moves and terms in truth, images, sentence by sentence. */
public final class BoundaryTruthTest extends Boundary {
    public static void main(String[] args) {
        run(BoundaryTruthTest.class);
    }

    // ---- 48

    /** Three children, of STEP 1; SHELF 0: two changes, then one too far; 1 forty of them; 2 a COUNT; 3 none. */
    private static OneTwoOneTwo told() {
        OneTwoOneTwo x = children(3, 1);
        x.count(0, 2, 0);
        x.wish(0, 1, true, 7);
        x.row(0, 1, 3);
        tell(x, 0, 1, 102, 2);
        x.row(1, 2, 40);
        for (int i = 0; i < 40; i++) {
            x.set(1, i, i % 2 == 0 ? 1 : 100);
        }
        x.show(2, 0);
        x.row(3, 0, 0);
        return x;
    }

    private static OneTwoOneTwo toldToNobody() {
        OneTwoOneTwo x = withCount(0, 0, 2, 0);
        x.row(0, 0, 1);
        return x;
    }

    @Sentence(of = "Promise 48", says = "the first n elements (0 to 40) of the ROW in SHELF s: WRONG; NONE.")
    static void promise48NoneToForty() {
        answers(NONE, BoundaryTruthTest::told, x -> x.judge(0, 0));
        answers(NONE, BoundaryTruthTest::told, x -> x.judge(0, 1));
        answers(1, BoundaryTruthTest::told, x -> x.judge(0, 2));
        answers(1, BoundaryTruthTest::told, x -> x.judge(0, 3));
        answers(NONE, BoundaryTruthTest::told, x -> x.judge(1, 40));
        answers(NONE, BoundaryTruthTest::told, x -> x.judge(3, 0));
        OneTwoOneTwo last = told();
        last.set(1, 39, 0);
        due(last.judge(1, 39), NONE);
        due(last.judge(1, 40), 39);
        answers(0, BoundaryTruthTest::toldToNobody, x -> x.judge(0, 1));
        answers(NONE, BoundaryTruthTest::toldToNobody, x -> x.judge(0, 0));
    }

    @Sentence(of = "Promise 48", says = "BAD SHELF, n;")
    static void promise48BadShelfAndNumber() {
        for (int s : outside(0, 7)) {
            refused(BAD, BoundaryTruthTest::told, x -> x.judge(s, 0));
        }
        for (int n : outside(0, 40)) {
            for (int s = 0; s < 5; s++) {
                int shelf = s;
                refused(BAD, BoundaryTruthTest::told, x -> x.judge(shelf, n));
            }
        }
    }

    @Sentence(of = "Promise 48", says = "OTHER;")
    static void promise48Other() {
        refused(OTHER, BoundaryTruthTest::told, x -> x.judge(2, 0));
        refused(OTHER, BoundaryTruthTest::told, x -> x.judge(2, 40));
    }

    @Sentence(of = "Promise 48", says = "NOTHING;")
    static void promise48Nothing() {
        refused(NOTHING, BoundaryTruthTest::told, x -> x.judge(4, 0));
        refused(NOTHING, BoundaryTruthTest::told, x -> x.judge(7, 40));
    }

    @Sentence(of = "Promise 48", says = "BAD: fewer elements.")
    static void promise48FewerElements() {
        refused(BAD, BoundaryTruthTest::told, x -> x.judge(0, 4));
        refused(BAD, BoundaryTruthTest::told, x -> x.judge(3, 1));
        refused(BAD, BoundaryTruthTest::told, x -> x.judge(0, 40));
    }

    // ---- 49

    @Sentence(of = "Promise 49", says = "VALUE by a COUNT behind it.")
    static void promise49BehindNoneToForty() {
        OneTwoOneTwo x = told();
        tell(x, 0, 102, 1, 2);
        due(x.behind(0, 0, 0), 0);
        due(x.behind(0, 1, 0), 7);
        answers(0, BoundaryTruthTest::told, y -> y.behind(1, 40, 0));
        answers(0, BoundaryTruthTest::told, y -> y.behind(3, 0, 0));
        answers(0, BoundaryTruthTest::toldToNobody, y -> y.behind(0, 0, 0));
        stands(x, 0, 1, 2);
    }

    @Sentence(of = "Promise 49", says = "BAD, also the COUNT;")
    static void promise49Bad() {
        for (int count : outside(0, 0)) {
            for (int s = 0; s < 5; s++) {
                int shelf = s;
                refused(BAD, BoundaryTruthTest::told, x -> x.behind(shelf, 0, count));
            }
        }
        for (int s : outside(0, 7)) {
            refused(BAD, BoundaryTruthTest::told, x -> x.behind(s, 0, 0));
        }
        for (int n : outside(0, 40)) {
            for (int s = 0; s < 5; s++) {
                int shelf = s;
                refused(BAD, BoundaryTruthTest::told, x -> x.behind(shelf, n, 0));
            }
        }
    }

    @Sentence(of = "Promise 49", says = "OTHER;")
    static void promise49Other() {
        refused(OTHER, BoundaryTruthTest::told, x -> x.behind(2, 0, 0));
        refused(OTHER, BoundaryTruthTest::told, x -> x.behind(2, 40, 0));
    }

    @Sentence(of = "Promise 49", says = "NOTHING;")
    static void promise49Nothing() {
        refused(NOTHING, BoundaryTruthTest::told, x -> x.behind(4, 0, 0));
        refused(NOTHING, BoundaryTruthTest::told, x -> x.behind(7, 40, 0));
    }

    @Sentence(of = "Promise 49", says = "NOTHING; BAD;")
    static void promise49FewerElements() {
        refused(BAD, BoundaryTruthTest::told, x -> x.behind(0, 4, 0));
        refused(BAD, BoundaryTruthTest::told, x -> x.behind(3, 1, 0));
    }

    @Sentence(of = "Promise 49", says = "STUCK: it is WRONG.")
    static void promise49Stuck() {
        refused(STUCK, BoundaryTruthTest::told, x -> x.behind(0, 2, 0));
        refused(STUCK, BoundaryTruthTest::told, x -> x.behind(0, 3, 0));
        refused(STUCK, BoundaryTruthTest::toldToNobody, x -> x.behind(0, 1, 0));
    }

    // ---- 50

    @Sentence(of = "Promise 50", says = "It comes to pass in truth: n.")
    static void promise50DoneNoneToForty() {
        answers(0, BoundaryTruthTest::told, x -> x.done(0, 0));
        answers(0, BoundaryTruthTest::told, x -> x.done(3, 0));
        answers(0, BoundaryTruthTest::toldToNobody, x -> x.done(0, 0));
        OneTwoOneTwo x = told();
        due(x.done(0, 1), 1);
        stands(x, 1, 0, 2);
        due(x.done(1, 40), 40);
        stands(x, 1, 0, 2);
        due(x.done(1, 39), 39);
        stands(x, 0, 1, 2);
    }

    @Sentence(of = "Promise 50", says = "n. BAD;")
    static void promise50Bad() {
        for (int s : outside(0, 7)) {
            refused(BAD, BoundaryTruthTest::told, x -> x.done(s, 0));
        }
        for (int n : outside(0, 40)) {
            for (int s = 0; s < 5; s++) {
                int shelf = s;
                refused(BAD, BoundaryTruthTest::told, x -> x.done(shelf, n));
            }
        }
    }

    @Sentence(of = "Promise 50", says = "OTHER;")
    static void promise50Other() {
        refused(OTHER, BoundaryTruthTest::told, x -> x.done(2, 0));
        refused(OTHER, BoundaryTruthTest::told, x -> x.done(2, 40));
    }

    @Sentence(of = "Promise 50", says = "NOTHING;")
    static void promise50Nothing() {
        refused(NOTHING, BoundaryTruthTest::told, x -> x.done(4, 0));
        refused(NOTHING, BoundaryTruthTest::told, x -> x.done(7, 40));
    }

    @Sentence(of = "Promise 50", says = "NOTHING; BAD;")
    static void promise50FewerElements() {
        refused(BAD, BoundaryTruthTest::told, x -> x.done(0, 4));
        refused(BAD, BoundaryTruthTest::told, x -> x.done(3, 1));
    }

    @Sentence(of = "Promise 50", says = "STUCK: it is WRONG.")
    static void promise50Stuck() {
        refused(STUCK, BoundaryTruthTest::told, x -> x.done(0, 2));
        refused(STUCK, BoundaryTruthTest::told, x -> x.done(0, 3));
        refused(STUCK, BoundaryTruthTest::toldToNobody, x -> x.done(0, 1));
    }

    // ---- 51

    @Sentence(of = "Promise 51", says = "Two CHILDREN change PLACES in truth: 1;")
    static void promise51ChangePlaces() {
        OneTwoOneTwo x = steps(4, 0, 9, 0, 4);
        due(x.swap(0, 4), 1);
        stands(x, 4, 1, 2, 3, 0);
        due(x.swap(2, 4), 1);
        stands(x, 2, 1, 4, 3, 0);
        due(x.status(15), 0);
    }

    @Sentence(of = "Promise 51", says = "0 if they are one.")
    static void promise51TheyAreOne() {
        for (int child = 0; child < 5; child++) {
            int same = child;
            answers(0, Boundary::some, x -> x.swap(same, same));
        }
    }

    @Sentence(of = "Promise 51", says = "BAD;")
    static void promise51Bad() {
        for (int child : outside(0, 4)) {
            refused(BAD, Boundary::some, x -> x.swap(child, 0));
            refused(BAD, Boundary::some, x -> x.swap(0, child));
            refused(BAD, Boundary::some, x -> x.swap(child, child));
        }
        refused(BAD, Boundary::empty, x -> x.swap(0, 0));
    }

    @Sentence(of = "Promise 51", says = "STUCK: farther apart than STEP of each.")
    static void promise51Stuck() {
        refused(STUCK, () -> steps(3, 0, 0, 0, 4), x -> x.swap(0, 4));
        refused(STUCK, () -> steps(4, 0, 0, 0, 3), x -> x.swap(0, 4));
        refused(STUCK, () -> steps(4, 0, 0, 0, 3), x -> x.swap(4, 0));
        refused(STUCK, () -> steps(0, 9), x -> x.swap(0, 1));
        refused(STUCK, () -> children(14, 9), x -> x.swap(0, 10));
        due(children(14, 9).swap(0, 9), 1);
    }

    // ---- 52

    @Sentence(of = "Promise 52", says = "A CHILD is MOVED to a PLACE in truth: where it was.")
    static void promise52FirstToLastPlace() {
        OneTwoOneTwo x = children(14, 0);
        due(x.move(0, 13), 0);
        stands(x, 1, 2, 3, 4, 5, 6, 7, 8, 9, 10, 11, 12, 13, 0);
        due(x.move(13, 0), 12);
        stands(x, 13, 1, 2, 3, 4, 5, 6, 7, 8, 9, 10, 11, 12, 0);
        due(x.move(0, 13), 13);
        due(x.move(13, 0), 0);
        stands(x, 13, 1, 2, 3, 4, 5, 6, 7, 8, 9, 10, 11, 12, 0);
        answers(1, Boundary::some, y -> y.move(4, 1));
    }

    @Sentence(of = "Promise 52", says = "BAD.")
    static void promise52Bad() {
        for (int child : outside(0, 4)) {
            refused(BAD, Boundary::some, x -> x.move(child, 0));
        }
        for (int place : outside(0, 4)) {
            refused(BAD, Boundary::some, x -> x.move(0, place));
        }
        refused(BAD, Boundary::empty, x -> x.move(0, 0));
    }

    // ---- 53

    @Sentence(of = "Promise 53", says = "The ROW is turned about in truth (the last one first): who is first then;")
    static void promise53TurnedAbout() {
        OneTwoOneTwo x = empty();
        x.child(1, 0);
        due(x.turn(), 0);
        stands(x, 0);
        x.child(1, 0);
        due(x.turn(), 1);
        stands(x, 1, 0);
        x.child(1, 0);
        due(x.turn(), 2);
        stands(x, 2, 0, 1);
        OneTwoOneTwo most = children(14, 0);
        due(most.turn(), 13);
        stands(most, 13, 12, 11, 10, 9, 8, 7, 6, 5, 4, 3, 2, 1, 0);
    }

    @Sentence(of = "Promise 53", says = "NONE: nobody.")
    static void promise53Nobody() {
        answers(NONE, Boundary::empty, x -> x.turn());
        OneTwoOneTwo x = children(1, 0);
        x.leaves();
        due(x.turn(), NONE);
    }

    // ---- 54

    @Sentence(of = "Promise 54", says = "The last CHILD (by number) goes, its WISHES too: how many are left.")
    static void promise54ToTheLastOne() {
        OneTwoOneTwo x = some();
        due(x.leaves(), 4);
        stands(x, 0, 1, 2, 3);
        due(x.status(2), 2);
        x.wish(2, 3, false, 9);
        x.turn();
        due(x.leaves(), 3);
        stands(x, 2, 1, 0);
        due(x.status(2), 2);
        due(x.wishOf(1, 3), 30);
        due(x.leaves(), 2);
        due(x.status(2), 1);
        due(x.wishOf(0, 3), 50);
        due(x.leaves(), 1);
        due(x.status(2), 0);
        due(x.leaves(), 0);
        due(x.status(0), 0);
        due(x.status(1), 3);
        OneTwoOneTwo first = children(3, 0);
        first.wish(0, 2, true, 5);
        first.wish(2, 1, false, 6);
        first.wish(1, 0, false, 7);
        first.wish(0, 1, true, 8);
        first.leaves();
        due(first.status(2), 2);
        int[][] left = {{1, 0, 0, 7}, {0, 1, 1, 8}};
        for (int i = 0; i < 2; i++) {
            for (int what = 0; what < 4; what++) {
                due(first.wishOf(i, what), left[i][what]);
            }
        }
        OneTwoOneTwo full = children(14, 0);
        due(full.leaves(), 13);
        due(full.child(1, 0), 13);
    }

    @Sentence(of = "Promise 54", says = "STUCK: nobody.")
    static void promise54Stuck() {
        refused(STUCK, Boundary::empty, x -> x.leaves());
        refused(STUCK, () -> withCount(0, 0, 2, 0), x -> x.leaves());
    }

    // ---- 55

    @Sentence(of = "Promise 55", says = "A TERM (n 1 to 60): all VALUES.")
    static void promise55OneToSixty() {
        for (int n : new int[] {1, 2, 59, 60}) {
            OneTwoOneTwo x = withCount(2, 0, 2, 0);
            x.wish(0, 1, false, 99);
            for (int i = 0; i < 19; i++) {
                x.wish(0, 1, i % 2 == 0, 99);
            }
            due(x.term(n), 99 * 10 * n);
        }
        OneTwoOneTwo alone = withCount(1, 0, 2, 0);
        due(alone.term(60), 0);
    }

    @Sentence(of = "Promise 55", says = "BAD;")
    static void promise55Bad() {
        for (int n : outside(1, 60)) {
            refused(BAD, Boundary::some, x -> x.term(n));
            refused(BAD, Boundary::empty, x -> x.term(n));
        }
    }

    @Sentence(of = "Promise 55", says = "STUCK: nobody, no COUNTS.")
    static void promise55Stuck() {
        refused(STUCK, Boundary::empty, x -> x.term(1));
        refused(STUCK, () -> withCount(0, 0, 2, 0), x -> x.term(1));
        refused(STUCK, () -> children(2, 0), x -> x.term(60));
    }

    // ---- 56

    @Sentence(of = "Promise 56", says = "SEED becomes v: the one ahead.")
    static void promise56AnySeed() {
        OneTwoOneTwo x = empty();
        int ahead = 1;
        for (int v : new int[] {0, -1, Integer.MAX_VALUE, Integer.MIN_VALUE, 1}) {
            due(x.seed(v), ahead);
            due(x.status(6), v);
            ahead = v;
        }
        OneTwoOneTwo minus = empty();
        minus.seed(-2);
        due(minus.seed(0), -2);
        due(minus.status(12), 0);
    }

    // ---- 57

    @Sentence(of = "Promise 57", says = "All is kept, but THE TAPE, SHELVES and REFUSALS: 1.")
    static void promise57WhatIsKept() {
        OneTwoOneTwo x = some();
        due(x.image(), 1);
        due(x.status(5), 9);
        x.leaves();
        x.turn();
        x.count(5, 5, 5);
        x.content();
        x.seed(3);
        x.wipe();
        x.row(0, 0, 1);
        x.set(0, 0, 9);
        x.child(0, 0);
        due(x.back(), 1);
        stands(x, 0, 4, 1, 2, 3);
        due(x.childOf(4, 0), 40);
        due(x.childOf(4, 1), 0);
        due(x.status(1), 3);
        due(x.status(2), 3);
        due(x.wishOf(2, 3), 20);
        due(x.status(6), 4711);
        due(x.status(5), 0);
        due(x.element(0, 0), 9);
        due(x.status(12), 1);
        due(empty().image(), 1);
    }

    // ---- 58

    @Sentence(of = "Promise 58", says = "All is again as it was kept")
    static void promise58AsItWasKept() {
        OneTwoOneTwo x = some();
        due(x.back(), 1);
        stands(x, 0, 1);
        due(x.status(1), 0);
        due(x.status(2), 0);
        due(x.status(6), 1);
        due(x.status(5), 9);
        x.turn();
        x.child(9, 9);
        due(x.back(), 1);
        stands(x, 0, 1);
        x.leaves();
        x.leaves();
        x.image();
        x.child(5, 5);
        due(x.back(), 1);
        due(x.status(0), 0);
    }

    @Sentence(of = "Promise 58", says = "(SHELVES with COUNTS hold those of the same numbers, or NOTHING): 1.")
    static void promise58ShelvesWithCounts() {
        OneTwoOneTwo x = empty();
        x.count(0, 2, 0);
        x.count(1, 3, 0);
        x.image();
        x.count(2, 4, 0);
        x.show(0, 0);
        x.show(3, 1);
        x.show(5, 2);
        x.show(7, 2);
        x.row(6, 4, 2);
        due(x.back(), 1);
        int[] want = {10, NONE, NONE, 11, NONE, NONE, 4, NONE};
        for (int s = 0; s < 8; s++) {
            due(x.holds(s), want[s]);
        }
        due(x.says(3, 0), 3);
        due(x.says(5, 0), NOTHING);
        x.count(4, 5, 0);
        due(x.holds(5), NONE);
        x.show(0, 2);
        x.show(1, 2);
        due(x.back(), 1);
        due(x.holds(0), NONE);
        due(x.holds(1), NONE);
        due(x.holds(3), 11);
    }

    @Sentence(of = "Promise 58", says = "STUCK: nothing was.")
    static void promise58Stuck() {
        refused(STUCK, Boundary::empty, x -> x.back());
        refused(STUCK, () -> withCount(2, 0, 2, 0), x -> x.back());
    }

    // ---- 59

    @Sentence(of = "Promise 59", says = "CHILDREN (0), COUNTS (1), WISHES (2), all WORTHS together (3), "
        + "all STRONG together (4), THE TAPE's size (5), SEED (6), SHELVES that hold something (7)")
    static void promise59WhatThereIs() {
        int[] atFirst = {0, 0, 0, 0, 0, 0, 1, 0};
        int[] ofSome = {5, 3, 3, 100, 210, 9, 4711, 4};
        for (int what = 0; what < 8; what++) {
            int asked = what;
            answers(atFirst[what], Boundary::empty, x -> x.status(asked));
            answers(ofSome[what], Boundary::some, x -> x.status(asked));
        }
        OneTwoOneTwo full = empty();
        for (int i = 0; i < 20; i++) {
            full.child(99, 9);
            full.count(0, 2, 0);
            full.wish(0, 1, true, 99);
            full.wish(0, 1, false, 99);
            full.row(i, 0, 0);
        }
        int[] most = {14, 6, 20, 1980, 1386, 0, 1, 8};
        for (int what = 0; what < 8; what++) {
            due(full.status(what), most[what]);
        }
    }

    @Sentence(of = "Promise 59", says = "12 to 16: REFUSALS -2 to -6.")
    static void promise59Refusals() {
        OneTwoOneTwo x = children(14, 0);
        x.count(0, 2, 0);
        x.show(0, 0);
        int[] times = {5, 4, 3, 2, 1};
        for (int i = 0; i < 5; i++) {
            due(i < 5 ? x.at(14) : BAD, BAD);
            due(i < 4 ? x.fits(0) : OTHER, OTHER);
            due(i < 3 ? x.fits(1) : NOTHING, NOTHING);
            due(i < 2 ? x.swap(0, 1) : STUCK, STUCK);
            due(i < 1 ? x.child(1, 0) : FULL, FULL);
        }
        for (int i = 0; i < 5; i++) {
            due(x.status(12 + i), times[i]);
        }
    }

    @Sentence(of = "Promise 59", says = "NONE another what.")
    static void promise59AnotherWhat() {
        for (int what : new int[] {-1, 8, 9, 10, 11, 17, -12, Integer.MIN_VALUE, Integer.MAX_VALUE}) {
            answers(NONE, Boundary::some, x -> x.status(what));
        }
    }
}
