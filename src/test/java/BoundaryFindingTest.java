/** Promises 34 to 47: what comes of it, counting out and told MORNINGS, sentence by sentence. */
public final class BoundaryFindingTest extends Boundary {
    public static void main(String[] args) {
        run(BoundaryFindingTest.class);
    }

    private static OneTwoOneTwo nobodyCounted() {
        return withCount(0, 0, 2, 0);
    }

    private static OneTwoOneTwo alone() {
        return withCount(1, 0, 2, 0);
    }

    private static OneTwoOneTwo pair() {
        return withCount(2, 0, 2, 0);
    }

    // ---- 34

    @Sentence(of = "Promise 34", says = "BEST COUNT (what 0), WORST (1), EVENEST (2), of several the first.")
    static void promise34TheFirstOfSeveral() {
        answers(0, Boundary::some, x -> x.best(0));
        answers(1, Boundary::some, x -> x.best(1));
        OneTwoOneTwo x = empty();
        for (int c = 0; c < 6; c++) {
            x.count(0, 5 - c % 4, 0);
            due(x.best(0), 0);
            due(x.best(1), 0);
            due(x.best(2), 0);
        }
        OneTwoOneTwo last = strong(10, 10, 20);
        for (int c = 0; c < 5; c++) {
            last.count(0, 3, 0);
        }
        last.count(2, 2, 0);
        last.wish(0, 1, true, 1);
        due(last.best(0), 5);
        due(last.best(1), 0);
        due(last.best(2), 5);
        last.wish(0, 1, false, 2);
        due(last.best(0), 0);
        due(last.best(1), 5);
    }

    @Sentence(of = "Promise 34", says = "BAD;")
    static void promise34Bad() {
        for (int what : outside(0, 2)) {
            refused(BAD, Boundary::some, x -> x.best(what));
            refused(BAD, Boundary::empty, x -> x.best(what));
        }
    }

    @Sentence(of = "Promise 34", says = "STUCK: no COUNTS.")
    static void promise34Stuck() {
        for (int what = 0; what <= 2; what++) {
            int asked = what;
            refused(STUCK, Boundary::empty, x -> x.best(asked));
            refused(STUCK, () -> children(2, 0), x -> x.best(asked));
            answers(0, BoundaryFindingTest::nobodyCounted, x -> x.best(asked));
        }
    }

    // ---- 35

    @Sentence(of = "Promise 35", says = "EVEN of a COUNT.")
    static void promise35NoneToAll() {
        answers(0, BoundaryFindingTest::nobodyCounted, x -> x.even(0));
        answers(1, BoundaryFindingTest::alone, x -> x.even(0));
        answers(90, Boundary::some, x -> x.even(0));
        answers(80, Boundary::some, x -> x.even(1));
        answers(80, Boundary::some, x -> x.even(2));
        OneTwoOneTwo x = strong(99, 1, 99, 1, 99, 1, 99, 1, 99, 1, 99, 1, 99, 1);
        x.count(1, 2, 0);
        due(x.even(0), 686);
    }

    @Sentence(of = "Promise 35", says = "BAD.")
    static void promise35Bad() {
        for (int count : outside(0, 2)) {
            refused(BAD, Boundary::some, x -> x.even(count));
        }
        refused(BAD, Boundary::empty, x -> x.even(0));
    }

    // ---- 36

    @Sentence(of = "Promise 36", says = "CHANGE; NONE.")
    static void promise36ChangeOrNone() {
        OneTwoOneTwo x = steps(0, 1, 1);
        x.count(0, 2, 0);
        due(x.change(0), NONE);
        x.wish(0, 1, true, 1);
        due(x.change(0), 102);
        x.swap(1, 2);
        due(x.change(0), NONE);
        OneTwoOneTwo far = steps(1, 0, 1);
        far.count(0, 2, 0);
        far.wish(0, 1, true, 1);
        due(far.change(0), NONE);
    }

    @Sentence(of = "Promise 36", says = "BAD. (NONE isn't refused.)")
    static void promise36Bad() {
        for (int count : outside(0, 2)) {
            refused(BAD, Boundary::some, x -> x.change(count));
        }
        refused(BAD, Boundary::empty, x -> x.change(0));
        answers(NONE, BoundaryFindingTest::nobodyCounted, x -> x.change(0));
        answers(NONE, BoundaryFindingTest::alone, x -> x.change(0));
    }

    // ---- 37

    @Sentence(of = "Promise 37", says = "FAR of two; NONE.")
    static void promise37FarOrNone() {
        OneTwoOneTwo x = withCount(14, 0, 5, 0);
        due(x.far(0, 0, 10), 0);
        due(x.far(0, 0, 13), 3);
        due(x.far(0, 5, 6), 4);
        due(pair().far(0, 1, 0), NONE);
        OneTwoOneTwo last = withCount(3, 0, 2, 0);
        due(last.far(0, 0, 1), 1);
        due(last.far(0, 1, 2), 1);
    }

    @Sentence(of = "Promise 37", says = "BAD: also the same. (NONE isn't refused.)")
    static void promise37Bad() {
        for (int count : outside(0, 2)) {
            refused(BAD, Boundary::some, x -> x.far(count, 0, 1));
        }
        for (int child : outside(0, 4)) {
            refused(BAD, Boundary::some, x -> x.far(0, child, 0));
            refused(BAD, Boundary::some, x -> x.far(0, 0, child));
        }
        for (int child = 0; child < 5; child++) {
            int same = child;
            refused(BAD, Boundary::some, x -> x.far(0, same, same));
        }
        answers(NONE, BoundaryFindingTest::pair, x -> x.far(0, 0, 1));
    }

    // ---- 38

    private static OneTwoOneTwo wishing(int children) {
        OneTwoOneTwo x = withCount(children, 0, 3, 0);
        for (int c = 1; c < children; c++) {
            x.wish(0, c, true, 10 + c);
        }
        return x;
    }

    @Sentence(of = "Promise 38", says = "MOST.")
    static void promise38OfNoneToEight() {
        answers(0, BoundaryFindingTest::nobodyCounted, x -> x.most(0));
        answers(0, BoundaryFindingTest::alone, x -> x.most(0));
        int[] want = {0, 0, 0, 13, 14, 15, 16 + 15, 17 + 16};
        for (int n = 1; n <= 8; n++) {
            int children = n;
            answers(want[n - 1], () -> wishing(children), x -> x.most(0));
        }
    }

    @Sentence(of = "Promise 38", says = "BAD;")
    static void promise38Bad() {
        for (int count : outside(0, 2)) {
            refused(BAD, Boundary::some, x -> x.most(count));
        }
        for (int count : outside(0, 0)) {
            refused(BAD, () -> wishing(9), x -> x.most(count));
        }
        refused(BAD, Boundary::empty, x -> x.most(0));
        refused(BAD, () -> children(9, 0), x -> x.most(0));
    }

    @Sentence(of = "Promise 38", says = "STUCK: more than 8 CHILDREN.")
    static void promise38Stuck() {
        due(wishing(8).most(0), 33);
        refused(STUCK, () -> wishing(9), x -> x.most(0));
        refused(STUCK, () -> wishing(14), x -> x.most(0));
    }

    // ---- 39

    @Sentence(of = "Promise 39", says = "ALWAYS (bits, itself too).")
    static void promise39ItselfToo() {
        answers(1, BoundaryFindingTest::alone, x -> x.always(0));
        answers(2, BoundaryFindingTest::pair, x -> x.always(1));
        answers(3, () -> children(2, 0), x -> x.always(1));
        answers(1 | 8, Boundary::some, x -> x.always(0));
        answers(4, Boundary::some, x -> x.always(2));
        answers(1 | 8, Boundary::some, x -> x.always(3));
    }

    @Sentence(of = "Promise 39", says = "BAD.")
    static void promise39Bad() {
        for (int child : outside(0, 4)) {
            refused(BAD, Boundary::some, x -> x.always(child));
        }
        refused(BAD, Boundary::empty, x -> x.always(0));
        refused(BAD, BoundaryFindingTest::nobodyCounted, x -> x.always(0));
    }

    // ---- 40

    @Sentence(of = "Promise 40", says = "OFTEN of two.")
    static void promise40NoneToAll() {
        answers(0, () -> children(2, 0), x -> x.often(0, 1));
        answers(0, BoundaryFindingTest::pair, x -> x.often(0, 1));
        answers(3, Boundary::some, x -> x.often(0, 3));
        answers(3, Boundary::some, x -> x.often(3, 0));
        answers(1, Boundary::some, x -> x.often(0, 1));
        answers(1, Boundary::some, x -> x.often(4, 1));
        answers(0, Boundary::some, x -> x.often(2, 0));
    }

    @Sentence(of = "Promise 40", says = "BAD: also the same.")
    static void promise40Bad() {
        for (int child : outside(0, 4)) {
            refused(BAD, Boundary::some, x -> x.often(child, 0));
            refused(BAD, Boundary::some, x -> x.often(0, child));
        }
        for (int child = 0; child < 5; child++) {
            int same = child;
            refused(BAD, Boundary::some, x -> x.often(same, same));
        }
        refused(BAD, Boundary::empty, x -> x.often(0, 1));
    }

    // ---- 41

    @Sentence(of = "Promise 41", says = "SAFE of two.")
    static void promise41FirstToLastPlace() {
        answers(0, () -> children(2, 0), x -> x.safe(0, 1));
        answers(0, BoundaryFindingTest::pair, x -> x.safe(0, 1));
        OneTwoOneTwo x = withCount(3, 0, 2, 0);
        due(x.safe(0, 1), 2);
        due(x.safe(1, 0), 2);
        due(x.safe(0, 2), 2);
        due(x.safe(2, 0), 0);
        stands(x, 0, 1, 2);
    }

    @Sentence(of = "Promise 41", says = "BAD: also the same.")
    static void promise41Bad() {
        for (int child : outside(0, 4)) {
            refused(BAD, Boundary::some, x -> x.safe(child, 0));
            refused(BAD, Boundary::some, x -> x.safe(0, child));
        }
        for (int child = 0; child < 5; child++) {
            int same = child;
            refused(BAD, Boundary::some, x -> x.safe(same, same));
        }
        refused(BAD, Boundary::empty, x -> x.safe(0, 1));
    }

    // ---- 42

    @Sentence(of = "Promise 42", says = "OUT by k: the i-th.")
    static void promise42FirstToLast() {
        int[] byTwo = {4, 2, 0, 3, 1};
        for (int i = 0; i < 5; i++) {
            int asked = i;
            answers(byTwo[i], Boundary::some, x -> x.out(2, asked));
            due(some().out(1, i), some().at(i));
        }
        OneTwoOneTwo x = children(14, 0);
        due(x.out(20, 0), 5);
        due(x.out(14, 0), 13);
        due(x.out(13, 1), 11);
        due(alone().out(20, 0), 0);
    }

    @Sentence(of = "Promise 42", says = "BAD.")
    static void promise42Bad() {
        for (int k : outside(1, 20)) {
            refused(BAD, Boundary::some, x -> x.out(k, 0));
        }
        for (int i : outside(0, 4)) {
            refused(BAD, Boundary::some, x -> x.out(1, i));
        }
        refused(BAD, Boundary::empty, x -> x.out(1, 0));
    }

    // ---- 43

    @Sentence(of = "Promise 43", says = "As the how manieth (0 on) a CHILD goes OUT by k.")
    static void promise43FirstToLast() {
        int[] byTwo = {2, 4, 1, 3, 0};
        for (int child = 0; child < 5; child++) {
            int asked = child;
            answers(byTwo[child], Boundary::some, x -> x.outAt(2, asked));
            due(some().outAt(1, child), some().childOf(child, 2));
        }
        due(children(14, 0).outAt(20, 5), 0);
        due(alone().outAt(20, 0), 0);
    }

    @Sentence(of = "Promise 43", says = "BAD.")
    static void promise43Bad() {
        for (int k : outside(1, 20)) {
            refused(BAD, Boundary::some, x -> x.outAt(k, 0));
        }
        for (int child : outside(0, 4)) {
            refused(BAD, Boundary::some, x -> x.outAt(1, child));
        }
        refused(BAD, Boundary::empty, x -> x.outAt(1, 0));
    }

    // ---- 44

    @Sentence(of = "Promise 44", says = "The least k (1 to 20) by which a CHILD is who is left; NONE.")
    static void promise44TheLeastOrNone() {
        answers(1, BoundaryFindingTest::alone, x -> x.stays(0));
        answers(1, BoundaryFindingTest::pair, x -> x.stays(1));
        answers(2, BoundaryFindingTest::pair, x -> x.stays(0));
        answers(1, () -> children(14, 0), x -> x.stays(13));
        answers(2, () -> children(14, 0), x -> x.stays(12));
        answers(20, () -> children(14, 0), x -> x.stays(4));
        answers(NONE, () -> children(14, 0), x -> x.stays(2));
    }

    @Sentence(of = "Promise 44", says = "BAD. (NONE isn't refused.)")
    static void promise44Bad() {
        for (int child : outside(0, 4)) {
            refused(BAD, Boundary::some, x -> x.stays(child));
        }
        refused(BAD, Boundary::empty, x -> x.stays(0));
        answers(NONE, () -> children(14, 0), x -> x.stays(2));
    }

    // ---- 45

    /** Three children who are told as they are by COUNT 0, in SHELF 0 with just so many elements. */
    private static OneTwoOneTwo told() {
        OneTwoOneTwo x = withCount(3, 0, 3, 0);
        x.count(1, 3, 0);
        x.row(0, 0, 3);
        tell(x, 0, 0, 1, 2);
        x.row(1, 0, 2);
        tell(x, 1, 0, 1);
        x.show(2, 0);
        return x;
    }

    private static OneTwoOneTwo toldNobody() {
        OneTwoOneTwo x = withCount(0, 0, 2, 0);
        x.row(0, 0, 0);
        return x;
    }

    private static OneTwoOneTwo toldWithoutCounts() {
        OneTwoOneTwo x = children(1, 0);
        x.row(0, 0, 1);
        x.row(1, 0, 0);
        return x;
    }

    @Sentence(of = "Promise 45", says = "FITS (bits) by the ROW in SHELF s.")
    static void promise45NoneToAll() {
        answers(1, BoundaryFindingTest::told, x -> x.fits(0));
        answers(1, BoundaryFindingTest::toldNobody, x -> x.fits(0));
        answers(0, BoundaryFindingTest::toldWithoutCounts, x -> x.fits(0));
        OneTwoOneTwo x = told();
        x.row(7, 3, 40);
        tell(x, 7, 2, 1, 0, 9);
        due(x.fits(7), 2);
        x.set(7, 0, (1L << 32) + 2);
        due(x.fits(7), 0);
        x.set(7, 0, 2);
        x.set(7, 2, -1);
        due(x.fits(7), 0);
    }

    @Sentence(of = "Promise 45", says = "BAD SHELF;")
    static void promise45BadShelf() {
        for (int s : outside(0, 7)) {
            refused(BAD, BoundaryFindingTest::told, x -> x.fits(s));
        }
    }

    @Sentence(of = "Promise 45", says = "OTHER;")
    static void promise45Other() {
        refused(OTHER, BoundaryFindingTest::told, x -> x.fits(2));
    }

    @Sentence(of = "Promise 45", says = "NOTHING;")
    static void promise45Nothing() {
        refused(NOTHING, BoundaryFindingTest::told, x -> x.fits(3));
        refused(NOTHING, Boundary::empty, x -> x.fits(0));
    }

    @Sentence(of = "Promise 45", says = "BAD: fewer elements than CHILDREN.")
    static void promise45FewerElements() {
        refused(BAD, BoundaryFindingTest::told, x -> x.fits(1));
        refused(BAD, BoundaryFindingTest::toldWithoutCounts, x -> x.fits(1));
    }

    // ---- 46

    @Sentence(of = "Promise 46", says = "ONE MOVED by a COUNT; NONE.")
    static void promise46OneMovedOrNone() {
        OneTwoOneTwo x = told();
        due(x.moved(0, 0), NONE);
        due(x.moved(1, 0), 2);
        tell(x, 0, 1, 0, 2);
        due(x.moved(0, 0), 1);
        due(x.moved(1, 0), NONE);
        tell(x, 0, 0, 2, 1);
        due(x.moved(0, 0), 102);
        tell(x, 0, 0, 2, 3);
        due(x.moved(0, 0), NONE);
    }

    @Sentence(of = "Promise 46", says = "NONE. BAD;")
    static void promise46Bad() {
        for (int count : outside(0, 1)) {
            for (int s = 0; s < 4; s++) {
                int shelf = s;
                refused(BAD, BoundaryFindingTest::told, x -> x.moved(count, shelf));
            }
        }
        for (int s : outside(0, 7)) {
            refused(BAD, BoundaryFindingTest::told, x -> x.moved(0, s));
        }
    }

    @Sentence(of = "Promise 46", says = "OTHER;")
    static void promise46Other() {
        refused(OTHER, BoundaryFindingTest::told, x -> x.moved(0, 2));
    }

    @Sentence(of = "Promise 46", says = "NOTHING;")
    static void promise46Nothing() {
        refused(NOTHING, BoundaryFindingTest::told, x -> x.moved(0, 3));
        refused(NOTHING, BoundaryFindingTest::alone, x -> x.moved(0, 7));
    }

    @Sentence(of = "Promise 46", says = "BAD likewise.")
    static void promise46FewerElements() {
        refused(BAD, BoundaryFindingTest::told, x -> x.moved(0, 1));
    }

    @Sentence(of = "Promise 46", says = "(NONE isn't refused.)")
    static void promise46NoneIsNotRefused() {
        answers(NONE, BoundaryFindingTest::told, x -> x.moved(0, 0));
        answers(NONE, BoundaryFindingTest::toldNobody, x -> x.moved(0, 0));
    }

    // ---- 47

    @Sentence(of = "Promise 47", says = "MISCOUNTED.")
    static void promise47NoneToAll() {
        answers(0, BoundaryFindingTest::told, x -> x.miscounted(0));
        answers(0, BoundaryFindingTest::toldNobody, x -> x.miscounted(0));
        OneTwoOneTwo x = told();
        tell(x, 0, 0, 1, 0);
        due(x.miscounted(0), 1);
        tell(x, 0, 3, 3, 3);
        due(x.miscounted(0), 3);
        tell(x, 0, 2, 1, 0);
        due(x.miscounted(0), 0);
    }

    @Sentence(of = "Promise 47", says = "MISCOUNTED. BAD;")
    static void promise47BadShelf() {
        for (int s : outside(0, 7)) {
            refused(BAD, BoundaryFindingTest::told, x -> x.miscounted(s));
            refused(BAD, BoundaryFindingTest::toldWithoutCounts, x -> x.miscounted(s));
        }
    }

    @Sentence(of = "Promise 47", says = "OTHER;")
    static void promise47Other() {
        refused(OTHER, BoundaryFindingTest::told, x -> x.miscounted(2));
    }

    @Sentence(of = "Promise 47", says = "NOTHING;")
    static void promise47Nothing() {
        refused(NOTHING, BoundaryFindingTest::told, x -> x.miscounted(3));
        refused(NOTHING, BoundaryFindingTest::toldWithoutCounts, x -> x.miscounted(2));
    }

    @Sentence(of = "Promise 47", says = "BAD likewise;")
    static void promise47FewerElements() {
        refused(BAD, BoundaryFindingTest::told, x -> x.miscounted(1));
        refused(BAD, BoundaryFindingTest::toldWithoutCounts, x -> x.miscounted(1));
    }

    @Sentence(of = "Promise 47", says = "STUCK: no COUNTS.")
    static void promise47Stuck() {
        refused(STUCK, BoundaryFindingTest::toldWithoutCounts, x -> x.miscounted(0));
        OneTwoOneTwo nobody = empty();
        nobody.row(0, 4, 0);
        due(nobody.miscounted(0), STUCK);
    }
}
