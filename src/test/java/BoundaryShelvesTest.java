/** Promises 1 to 8: a new object, and what SHELVES hold and say, sentence by sentence. */
public final class BoundaryShelvesTest extends Boundary {
    private static final int MIN = Integer.MIN_VALUE;
    private static final int MAX = Integer.MAX_VALUE;

    public static void main(String[] args) {
        run(BoundaryShelvesTest.class);
    }

    // ---- 1

    @Sentence(of = "Promise 1", says = "Nobody")
    static void promise01NobodyAtFirst() {
        OneTwoOneTwo x = empty();
        due(x.status(0), 0);
        due(x.status(2), 0);
        due(x.status(3), 0);
        due(x.status(4), 0);
        due(x.at(0), BAD);
    }

    @Sentence(of = "Promise 1", says = "no COUNTS")
    static void promise01NoCountsAtFirst() {
        OneTwoOneTwo x = empty();
        due(x.status(1), 0);
        due(x.countOf(0, 0), BAD);
        due(x.best(0), STUCK);
    }

    @Sentence(of = "Promise 1", says = "SHELVES hold NOTHING")
    static void promise01ShelvesHoldNothingAtFirst() {
        OneTwoOneTwo x = empty();
        due(x.status(7), 0);
        for (int s = 0; s < 8; s++) {
            due(x.holds(s), NONE);
            due(x.set(s, 0, 1), NOTHING);
        }
    }

    @Sentence(of = "Promise 1", says = "THE TAPE is empty")
    static void promise01TheTapeIsEmptyAtFirst() {
        due(empty().status(5), 0);
        due(empty().wipe(), 0);
        due(empty().yard(), -20);
    }

    // ---- 2

    @Sentence(of = "Promise 2", says = "SHELF s holds a new ROW: 1.")
    static void promise02ANewRow() {
        OneTwoOneTwo x = some();
        due(x.row(7, 4, 40), 1);
        due(x.holds(7), 4);
        due(x.row(0, 3, 6), 1);
        due(x.element(0, 0), 0);
        due(x.row(1, 0, 0), 1);
        due(x.holds(1), 0);
        due(x.row(2, 2, 40), 1);
        due(x.holds(2), 2);
        due(x.element(2, 0), 0);
        due(x.set(2, 39, 1), 1);
    }

    @Sentence(of = "Promise 2", says = "1. BAD.")
    static void promise02Bad() {
        for (int s : outside(0, 7)) {
            refused(BAD, Boundary::some, x -> x.row(s, 0, 1));
        }
        for (int sort : outside(0, 4)) {
            refused(BAD, Boundary::some, x -> x.row(0, sort, 1));
        }
        for (int n : outside(0, 40)) {
            refused(BAD, Boundary::some, x -> x.row(0, 0, n));
        }
    }

    // ---- 3

    @Sentence(of = "Promise 3", says = "Element i of the ROW in SHELF s becomes v: 1.")
    static void promise03FirstAndLastElement() {
        OneTwoOneTwo x = some();
        due(x.set(0, 0, 11), 1);
        due(x.set(0, 5, 66), 1);
        long[] want = {11, 103, 5, 6, 7, 66};
        for (int i = 0; i < 6; i++) {
            due(x.element(0, i), want[i]);
        }
        due(x.element(3, 0), 0);
    }

    @Sentence(of = "Promise 3", says = "BAD SHELF")
    static void promise03BadShelf() {
        for (int s : outside(0, 7)) {
            refused(BAD, Boundary::some, x -> x.set(s, 0, 1));
        }
    }

    @Sentence(of = "Promise 3", says = "OTHER;")
    static void promise03Other() {
        refused(OTHER, Boundary::some, x -> x.set(1, 0, 1));
        refused(OTHER, Boundary::some, x -> x.set(1, -1, 1));
        refused(OTHER, Boundary::some, x -> x.set(1, 40, 1));
    }

    @Sentence(of = "Promise 3", says = "NOTHING;")
    static void promise03Nothing() {
        refused(NOTHING, Boundary::some, x -> x.set(4, 0, 1));
        refused(NOTHING, Boundary::some, x -> x.set(7, -1, 1));
        refused(NOTHING, Boundary::some, x -> x.set(7, 40, 1));
    }

    @Sentence(of = "Promise 3", says = "BAD i")
    static void promise03BadElement() {
        for (int i : outside(0, 5)) {
            refused(BAD, Boundary::some, x -> x.set(0, i, 1));
        }
        for (int i : outside(0, 2)) {
            refused(BAD, Boundary::some, x -> x.set(2, i, 1));
        }
        OneTwoOneTwo x = empty();
        x.row(0, 0, 0);
        due(x.set(0, 0, 1), BAD);
        x.row(0, 0, 40);
        due(x.set(0, 40, 1), BAD);
    }

    // ---- 4

    private static OneTwoOneTwo twoRows() {
        OneTwoOneTwo x = empty();
        x.row(0, 1, 5);
        tell(x, 0, 1, 2, 3, 4, 5);
        x.row(1, 1, 4);
        tell(x, 1, 6, 7, 8, 9);
        x.row(2, 2, 4);
        x.count(0, 2, 0);
        x.show(3, 0);
        return x;
    }

    private static void elements(OneTwoOneTwo x, int s, long... want) {
        for (int i = 0; i < want.length; i++) {
            due(x.element(s, i), want[i]);
        }
    }

    @Sentence(of = "Promise 4",
        says = "n elements of the ROW in SHELF p from place i on come to places j on of that in q")
    static void promise04FromEndToEnd() {
        OneTwoOneTwo x = twoRows();
        due(x.copy(0, 1, 1, 0, 4), 4);
        elements(x, 1, 2, 3, 4, 5);
        elements(x, 0, 1, 2, 3, 4, 5);
        x = twoRows();
        due(x.copy(1, 0, 0, 1, 4), 4);
        elements(x, 0, 1, 6, 7, 8, 9);
        x = twoRows();
        due(x.copy(0, 1, 4, 3, 1), 1);
        elements(x, 1, 6, 7, 8, 5);
        due(x.copy(0, 1, 5, 4, 0), 0);
        due(x.copy(0, 1, 0, 0, 0), 0);
        elements(x, 1, 6, 7, 8, 5);
    }

    @Sentence(of = "Promise 4", says = "(as they were)")
    static void promise04OntoItself() {
        OneTwoOneTwo x = twoRows();
        due(x.copy(0, 0, 0, 1, 4), 4);
        elements(x, 0, 1, 1, 2, 3, 4);
        x = twoRows();
        due(x.copy(0, 0, 1, 0, 4), 4);
        elements(x, 0, 2, 3, 4, 5, 5);
        due(x.copy(0, 0, 0, 0, 5), 5);
        elements(x, 0, 2, 3, 4, 5, 5);
    }

    @Sentence(of = "Promise 4", says = "BAD SHELVES")
    static void promise04BadShelves() {
        for (int s : outside(0, 7)) {
            for (int other : new int[] {0, 3, 4}) {
                refused(BAD, BoundaryShelvesTest::twoRows, x -> x.copy(s, other, 0, 0, 0));
                refused(BAD, BoundaryShelvesTest::twoRows, x -> x.copy(other, s, 0, 0, 0));
            }
        }
    }

    @Sentence(of = "Promise 4", says = "OTHER (also ROWS of two SORTS, if both hold something)")
    static void promise04Other() {
        refused(OTHER, BoundaryShelvesTest::twoRows, x -> x.copy(3, 0, 0, 0, 1));
        refused(OTHER, BoundaryShelvesTest::twoRows, x -> x.copy(0, 3, 0, 0, 1));
        refused(OTHER, BoundaryShelvesTest::twoRows, x -> x.copy(3, 3, 0, 0, 1));
        refused(OTHER, BoundaryShelvesTest::twoRows, x -> x.copy(3, 4, 0, 0, 1));
        refused(OTHER, BoundaryShelvesTest::twoRows, x -> x.copy(4, 3, 0, 0, 1));
        refused(OTHER, BoundaryShelvesTest::twoRows, x -> x.copy(0, 2, 0, 0, 1));
        refused(OTHER, BoundaryShelvesTest::twoRows, x -> x.copy(2, 0, 0, 0, 0));
        refused(OTHER, BoundaryShelvesTest::twoRows, x -> x.copy(2, 0, -1, 99, -1));
    }

    @Sentence(of = "Promise 4", says = "NOTHING;")
    static void promise04Nothing() {
        refused(NOTHING, BoundaryShelvesTest::twoRows, x -> x.copy(4, 0, 0, 0, 1));
        refused(NOTHING, BoundaryShelvesTest::twoRows, x -> x.copy(0, 4, 0, 0, 1));
        refused(NOTHING, BoundaryShelvesTest::twoRows, x -> x.copy(4, 5, 0, 0, 0));
        refused(NOTHING, BoundaryShelvesTest::twoRows, x -> x.copy(2, 4, -1, -1, -1));
    }

    @Sentence(of = "Promise 4", says = "BAD the others")
    static void promise04BadPlaces() {
        int[][] bad = {{-1, 0, 1}, {0, -1, 1}, {0, 0, -1}, {5, 0, 1}, {0, 4, 1}, {2, 0, 4}, {0, 1, 4}, {0, 0, 5},
            {6, 0, 0}, {0, 5, 0}, {-1, 0, 0}, {0, -1, 0}, {MAX, 0, 1}, {0, MAX, 1}, {1, 1, MAX}, {MAX, MAX, MAX},
            {MIN, 0, 1}, {0, MIN, 1}, {0, 0, MIN}, {1, 1, MIN}, {MIN, MIN, MIN}};
        for (int[] b : bad) {
            refused(BAD, BoundaryShelvesTest::twoRows, x -> x.copy(0, 1, b[0], b[1], b[2]));
        }
        refused(BAD, BoundaryShelvesTest::twoRows, x -> x.copy(1, 0, 1, 0, 4));
    }

    // ---- 5

    @Sentence(of = "Promise 5", says = "Element i of the ROW")
    static void promise05FirstAndLastElement() {
        OneTwoOneTwo x = some();
        due(x.element(0, 0), 203);
        due(x.element(0, 5), 8);
        due(x.element(2, 2), 3);
        due(x.element(3, 4), 0);
    }

    @Sentence(of = "Promise 5", says = "0: none, no ROW (nothing is refused)")
    static void promise05NoneIsNotRefused() {
        for (int i : outside(0, 5)) {
            answers(0, Boundary::some, x -> x.element(0, i));
        }
        for (int s : outside(0, 7)) {
            answers(0, Boundary::some, x -> x.element(s, 0));
        }
        answers(0, Boundary::some, x -> x.element(1, 0));
        answers(0, Boundary::some, x -> x.element(7, 0));
        OneTwoOneTwo shorter = some();
        shorter.row(0, 3, 1);
        due(shorter.element(0, 1), 0);
        OneTwoOneTwo shown = some();
        shown.show(0, 0);
        due(shown.element(0, 0), 0);
    }

    // ---- 6

    @Sentence(of = "Promise 6", says = "NONE NOTHING, no SHELF")
    static void promise06HoldsNothing() {
        answers(NONE, Boundary::some, x -> x.holds(4));
        answers(NONE, Boundary::some, x -> x.holds(7));
        for (int s : outside(0, 7)) {
            answers(NONE, Boundary::some, x -> x.holds(s));
        }
    }

    @Sentence(of = "Promise 6", says = "0 to 4 a ROW by its SORT")
    static void promise06HoldsARow() {
        OneTwoOneTwo x = some();
        for (int sort = 0; sort <= 4; sort++) {
            x.row(7, sort, sort * 10);
            due(x.holds(7), sort);
        }
    }

    @Sentence(of = "Promise 6", says = "10 and the number of a COUNT")
    static void promise06HoldsACount() {
        OneTwoOneTwo x = empty();
        for (int c = 0; c < 6; c++) {
            x.count(5 - c, 2, 0);
            x.show(c, c);
        }
        for (int c = 0; c < 6; c++) {
            due(x.holds(c), 10 + c);
        }
    }

    // ---- 7

    @Sentence(of = "Promise 7", says = "SHELF s holds a COUNT")
    static void promise07ShowsACount() {
        OneTwoOneTwo x = some();
        due(x.show(0, 0), 1);
        due(x.holds(0), 10);
        due(x.show(7, 2), 1);
        due(x.holds(7), 12);
        due(x.show(1, 2), 1);
        due(x.holds(1), 12);
    }

    @Sentence(of = "Promise 7", says = "or NOTHING (count NONE): 1.")
    static void promise07ShowsNothing() {
        OneTwoOneTwo x = some();
        due(x.show(0, NONE), 1);
        due(x.holds(0), NONE);
        due(x.show(1, NONE), 1);
        due(x.holds(1), NONE);
        due(x.show(7, NONE), 1);
        due(x.status(7), 2);
        due(empty().show(0, NONE), 1);
        due(x.set(0, 0, 1), NOTHING);
    }

    @Sentence(of = "Promise 7", says = "1. BAD.")
    static void promise07Bad() {
        for (int s : outside(0, 7)) {
            refused(BAD, Boundary::some, x -> x.show(s, 0));
            refused(BAD, Boundary::some, x -> x.show(s, NONE));
        }
        for (int count : new int[] {-2, 3, MIN, MAX}) {
            refused(BAD, Boundary::some, x -> x.show(0, count));
        }
        refused(BAD, Boundary::empty, x -> x.show(0, 0));
    }

    // ---- 8

    /** SHELF 0 holds a COUNT of the KIND, by N, with a; so many children stand there. */
    private static OneTwoOneTwo shown(int children, int kind, int n, int a) {
        OneTwoOneTwo x = withCount(children, kind, n, a);
        x.show(0, 0);
        return x;
    }

    @Sentence(of = "Promise 8", says = "COUNT its N")
    static void promise08CountSaysItsTeams() {
        for (int kind = 0; kind <= 5; kind++) {
            answers(2, x(0, kind, 2, 0), x -> x.says(0, 0));
            answers(5, x(14, kind, 5, 13), x -> x.says(0, 0));
        }
    }

    private static java.util.function.Supplier<OneTwoOneTwo> x(int children, int kind, int n, int a) {
        return () -> shown(children, kind, n, a);
    }

    @Sentence(of = "Promise 8", says = "BACK the TEAM of PLACE 0")
    static void promise08BackSaysTheFirstPlace() {
        int[] want = {0, 1, 2, 0, 1, 2, 0, 1, 2, 0, 1, 2, 0, 1};
        for (int n = 1; n <= 14; n++) {
            due(shown(n, 1, 3, 0).says(0, 1), want[n - 1]);
            due(shown(n, 4, 3, 0).says(0, 1), 2 - want[n - 1]);
        }
    }

    @Sentence(of = "Promise 8", says = "JUMP how many are counted first (at even PLACES)")
    static void promise08JumpSaysTheEvenPlaces() {
        int[] want = {0, 1, 1, 2, 2, 3, 3, 4, 4, 5, 5, 6, 6, 7, 7};
        for (int n = 0; n <= 14; n++) {
            due(shown(n, 2, 2, 0).says(0, 2), want[n]);
        }
    }

    @Sentence(of = "Promise 8", says = "SLIP, LATE 1 if somebody stands at its a (and it isn't 0), else 0")
    static void promise08SlipSaysWhetherSomebodyStandsThere() {
        int[][] of = {{0, 0, 0}, {0, 1, 0}, {1, 0, 0}, {1, 1, 0}, {2, 0, 0}, {2, 1, 1}, {3, 2, 1}, {3, 3, 0},
            {13, 13, 0}, {14, 13, 1}, {14, 1, 1}, {14, 0, 0}};
        for (int[] o : of) {
            due(shown(o[0], 3, 2, o[1]).says(0, 3), o[2]);
            due(shown(o[0], 5, 2, o[1]).says(0, 3), o[2]);
            due(shown(o[0], 5, 2, o[1]).says(0, 5), o[2]);
        }
    }

    @Sentence(of = "Promise 8", says = "TURNED the TEAM of the last PLACE (NONE: nobody)")
    static void promise08TurnedSaysTheLastPlace() {
        answers(NONE, x(0, 4, 5, 0), x -> x.says(0, 4));
        for (int n = 1; n <= 14; n++) {
            due(shown(n, 4, 5, 0).says(0, 4), 4);
            due(shown(n, 4, 2, 0).says(0, 4), 1);
        }
    }

    @Sentence(of = "Promise 8", says = "BAD SHELF, KIND")
    static void promise08BadShelfAndKind() {
        for (int s : outside(0, 7)) {
            refused(BAD, Boundary::some, x -> x.says(s, 0));
        }
        for (int kind : outside(0, 5)) {
            refused(BAD, Boundary::some, x -> x.says(1, kind));
            refused(BAD, Boundary::some, x -> x.says(0, kind));
            refused(BAD, Boundary::some, x -> x.says(7, kind));
        }
    }

    @Sentence(of = "Promise 8", says = "OTHER (also if it is of no such KIND nor of one under it)")
    static void promise08Other() {
        for (int kind = 0; kind <= 5; kind++) {
            int as = kind;
            refused(OTHER, Boundary::some, x -> x.says(0, as));
        }
        int[][] no = {{0, 1}, {0, 2}, {0, 3}, {0, 4}, {0, 5}, {1, 2}, {1, 3}, {1, 4}, {1, 5}, {2, 1}, {2, 3},
            {2, 4}, {2, 5}, {3, 1}, {3, 2}, {3, 4}, {3, 5}, {4, 2}, {4, 3}, {4, 5}, {5, 1}, {5, 2}, {5, 4}};
        for (int[] n : no) {
            refused(OTHER, x(3, n[0], 2, 1), x -> x.says(0, n[1]));
        }
    }

    @Sentence(of = "Promise 8", says = "NOTHING. (")
    static void promise08Nothing() {
        for (int kind = 0; kind <= 5; kind++) {
            int as = kind;
            refused(NOTHING, Boundary::some, x -> x.says(7, as));
            refused(NOTHING, Boundary::empty, x -> x.says(0, as));
        }
    }

    @Sentence(of = "Promise 8", says = "(NONE isn't refused; BACK of nobody: NONE.)")
    static void promise08BackOfNobodyIsNotRefused() {
        answers(NONE, x(0, 1, 2, 0), x -> x.says(0, 1));
        answers(NONE, x(0, 4, 2, 0), x -> x.says(0, 1));
        answers(NONE, x(0, 4, 2, 0), x -> x.says(0, 4));
    }
}
