/** Promises 20 to 33: teams, wishes met and not, who hangs together, sentence by sentence. */
public final class BoundaryTeamsTest extends Boundary {
    public static void main(String[] args) {
        run(BoundaryTeamsTest.class);
    }

    /** Two children of five teams by COUNT: three teams are empty. */
    private static OneTwoOneTwo mostlyEmpty() {
        return withCount(2, 0, 5, 0);
    }

    private static OneTwoOneTwo nobodyCounted() {
        return withCount(0, 0, 5, 0);
    }

    // ---- 20

    @Sentence(of = "Promise 20", says = "TEAM of a CHILD by a COUNT.")
    static void promise20ByPlaceNotByNumber() {
        int[][] want = {{0, 0, 1, 0, 1}, {0, 1, 2, 0, 1}, {3, 1, 2, 3, 0}};
        for (int count = 0; count < 3; count++) {
            for (int child = 0; child < 5; child++) {
                due(some().team(count, child), want[count][child]);
            }
        }
    }

    @Sentence(of = "Promise 20", says = "BAD.")
    static void promise20Bad() {
        for (int count : outside(0, 2)) {
            refused(BAD, Boundary::some, x -> x.team(count, 0));
        }
        for (int child : outside(0, 4)) {
            refused(BAD, Boundary::some, x -> x.team(0, child));
        }
        refused(BAD, Boundary::empty, x -> x.team(0, 0));
        refused(BAD, BoundaryTeamsTest::nobodyCounted, x -> x.team(0, 0));
        refused(BAD, () -> children(1, 0), x -> x.team(0, 0));
    }

    // ---- 21

    @Sentence(of = "Promise 21", says = "CHILDREN (bits) in a TEAM by a COUNT.")
    static void promise21EmptyAndFullTeams() {
        int[] want = {1, 2, 0, 0, 0};
        for (int team = 0; team < 5; team++) {
            due(mostlyEmpty().members(0, team), want[team]);
            due(nobodyCounted().members(0, team), 0);
        }
        due(some().members(2, 3), 1 | 8);
        due(withCount(14, 0, 2, 0).members(0, 1), 0b10101010101010);
    }

    @Sentence(of = "Promise 21", says = "BAD.")
    static void promise21Bad() {
        for (int count : outside(0, 2)) {
            refused(BAD, Boundary::some, x -> x.members(count, 0));
        }
        for (int count = 0; count < 3; count++) {
            int by = count;
            for (int team : outside(0, count + 1)) {
                refused(BAD, Boundary::some, x -> x.members(by, team));
            }
        }
        refused(BAD, Boundary::empty, x -> x.members(0, 0));
    }

    // ---- 22

    @Sentence(of = "Promise 22", says = "All STRONG in a TEAM by a COUNT together.")
    static void promise22EmptyAndFullTeams() {
        int[] want = {1, 2, 0, 0, 0};
        for (int team = 0; team < 5; team++) {
            due(mostlyEmpty().strength(0, team), want[team]);
            due(nobodyCounted().strength(0, team), 0);
        }
        due(some().strength(0, 0), 150);
        due(some().strength(0, 1), 60);
        OneTwoOneTwo x = strong(99, 1, 99, 1, 99, 1, 99, 1, 99, 1, 99, 1, 99, 1);
        x.count(0, 2, 0);
        due(x.strength(0, 0), 693);
    }

    @Sentence(of = "Promise 22", says = "BAD.")
    static void promise22Bad() {
        for (int count : outside(0, 2)) {
            refused(BAD, Boundary::some, x -> x.strength(count, 0));
        }
        for (int count = 0; count < 3; count++) {
            int by = count;
            for (int team : outside(0, count + 1)) {
                refused(BAD, Boundary::some, x -> x.strength(by, team));
            }
        }
        refused(BAD, Boundary::empty, x -> x.strength(0, 0));
    }

    // ---- 23

    @Sentence(of = "Promise 23", says = "The TEAM with most STRONG by a COUNT, of several the first.")
    static void promise23TheFirstOfSeveral() {
        due(nobodyCounted().heaviest(0), 0);
        OneTwoOneTwo x = strong(1, 9, 2, 9);
        x.count(0, 4, 0);
        due(x.heaviest(0), 1);
        x.child(8, 0);
        due(x.heaviest(0), 0);
        OneTwoOneTwo last = strong(1, 2, 3, 4, 5);
        last.count(0, 5, 0);
        due(last.heaviest(0), 4);
    }

    @Sentence(of = "Promise 23", says = "BAD.")
    static void promise23Bad() {
        for (int count : outside(0, 2)) {
            refused(BAD, Boundary::some, x -> x.heaviest(count));
        }
        refused(BAD, Boundary::empty, x -> x.heaviest(0));
    }

    // ---- 24

    @Sentence(of = "Promise 24", says = "VALUE by a COUNT, if the ROW were turned about.")
    static void promise24TurnedAbout() {
        due(nobodyCounted().turned(0), 0);
        for (int n = 4; n <= 5; n++) {
            OneTwoOneTwo x = withCount(n, 3, 2, 1);
            x.wish(0, 1, true, 5);
            x.wish(n - 2, n - 1, true, 9);
            due(x.value(0), 5);
            due(x.turned(0), 9);
            x.turn();
            due(x.turned(0), 5);
        }
    }

    @Sentence(of = "Promise 24", says = "BAD.")
    static void promise24Bad() {
        for (int count : outside(0, 2)) {
            refused(BAD, Boundary::some, x -> x.turned(count));
        }
        refused(BAD, Boundary::empty, x -> x.turned(0));
    }

    // ---- 25

    @Sentence(of = "Promise 25", says = "How many CHILDREN are in unlike TEAMS by two COUNTS.")
    static void promise25NoneToAll() {
        answers(2, Boundary::some, x -> x.unlike(0, 1));
        answers(2, Boundary::some, x -> x.unlike(1, 0));
        answers(0, Boundary::some, x -> x.unlike(2, 2));
        OneTwoOneTwo x = withCount(14, 3, 2, 0);
        x.count(5, 2, 0);
        due(x.unlike(0, 1), 14);
        OneTwoOneTwo nobody = nobodyCounted();
        nobody.count(5, 2, 0);
        due(nobody.unlike(0, 1), 0);
    }

    @Sentence(of = "Promise 25", says = "BAD.")
    static void promise25Bad() {
        for (int count : outside(0, 2)) {
            refused(BAD, Boundary::some, x -> x.unlike(count, 0));
            refused(BAD, Boundary::some, x -> x.unlike(0, count));
            refused(BAD, Boundary::some, x -> x.unlike(count, count));
        }
        refused(BAD, Boundary::empty, x -> x.unlike(0, 0));
    }

    // ---- 26

    @Sentence(of = "Promise 26",
        says = "The WISH of the greatest WORTH that isn't MET by a COUNT, of several the first; NONE.")
    static void promise26TheFirstOfTheGreatest() {
        OneTwoOneTwo x = withCount(3, 0, 2, 0);
        due(x.unmet(0), NONE);
        x.wish(0, 2, true, 99);
        x.wish(0, 1, false, 99);
        due(x.unmet(0), NONE);
        x.wish(0, 1, true, 1);
        due(x.unmet(0), 2);
        x.wish(0, 2, false, 5);
        x.wish(1, 2, true, 5);
        x.wish(1, 0, true, 4);
        due(x.unmet(0), 3);
        for (int i = 6; i < 20; i++) {
            x.wish(1, 0, true, i == 19 ? 99 : 5);
        }
        due(x.unmet(0), 19);
        due(some().unmet(0), 2);
        due(some().unmet(1), 0);
    }

    @Sentence(of = "Promise 26", says = "BAD. (NONE isn't refused.)")
    static void promise26Bad() {
        for (int count : outside(0, 2)) {
            refused(BAD, Boundary::some, x -> x.unmet(count));
        }
        refused(BAD, Boundary::empty, x -> x.unmet(0));
        answers(NONE, BoundaryTeamsTest::mostlyEmpty, x -> x.unmet(0));
    }

    // ---- 27

    private static OneTwoOneTwo chained() {
        OneTwoOneTwo x = children(14, 0);
        for (int c = 12; c >= 0; c--) {
            x.wish(c, c + 1, true, 1);
        }
        return x;
    }

    @Sentence(of = "Promise 27", says = "CHILDREN (bits, itself too) who hang together with one by WISHES to "
        + "be TOGETHER, one after the other.")
    static void promise27AloneAndAll() {
        due(children(1, 0).friendsOf(0), 1);
        due(children(14, 0).friendsOf(13), 1 << 13);
        due(chained().friendsOf(0), (1 << 14) - 1);
        due(chained().friendsOf(13), (1 << 14) - 1);
        due(some().friendsOf(1), 3);
        due(some().friendsOf(2), 4);
        due(some().friendsOf(4), 24);
        OneTwoOneTwo full = chained();
        for (int i = 13; i < 20; i++) {
            full.wish(0, 13, true, 1);
        }
        due(full.friendsOf(7), (1 << 14) - 1);
    }

    @Sentence(of = "Promise 27", says = "BAD.")
    static void promise27Bad() {
        for (int child : outside(0, 4)) {
            refused(BAD, Boundary::some, x -> x.friendsOf(child));
        }
        refused(BAD, Boundary::empty, x -> x.friendsOf(0));
    }

    // ---- 28

    @Sentence(of = "Promise 28", says = "How many such sets there are in all (each CHILD in one).")
    static void promise28NoneToAll() {
        answers(0, Boundary::empty, x -> x.groups());
        answers(1, () -> children(1, 0), x -> x.groups());
        answers(14, () -> children(14, 0), x -> x.groups());
        answers(1, BoundaryTeamsTest::chained, x -> x.groups());
        answers(3, Boundary::some, x -> x.groups());
    }

    // ---- 29

    @Sentence(of = "Promise 29", says = "The first WISH to be PARTED of two who hang together so; NONE.")
    static void promise29TheFirstOrNone() {
        answers(NONE, Boundary::empty, x -> x.conflict());
        answers(NONE, Boundary::some, x -> x.conflict());
        OneTwoOneTwo x = chained();
        due(x.conflict(), NONE);
        x.wish(13, 0, false, 1);
        due(x.conflict(), 13);
        x.wish(1, 0, false, 99);
        due(x.conflict(), 13);
        x.content();
        x.wish(1, 0, false, 1);
        due(x.conflict(), NONE);
        x.wish(0, 1, true, 1);
        due(x.conflict(), 0);
    }

    // ---- 30

    private static OneTwoOneTwo roundOfFour() {
        OneTwoOneTwo x = withCount(8, 0, 4, 0);
        x.wish(0, 5, true, 5);
        x.wish(1, 6, true, 5);
        x.wish(2, 7, true, 5);
        x.wish(3, 4, true, 5);
        return x;
    }

    @Sentence(of = "Promise 30", says = "The fewest changes of two PLACES (0 to 2, whatever the STEP) behind "
        + "which VALUE by a COUNT is v (0 to 9999) at least")
    static void promise30NoneToTwo() {
        answers(0, BoundaryTeamsTest::roundOfFour, x -> x.changes(0, 0));
        answers(1, BoundaryTeamsTest::roundOfFour, x -> x.changes(0, 1));
        answers(1, BoundaryTeamsTest::roundOfFour, x -> x.changes(0, 5));
        answers(2, BoundaryTeamsTest::roundOfFour, x -> x.changes(0, 6));
        answers(2, BoundaryTeamsTest::roundOfFour, x -> x.changes(0, 10));
        answers(0, BoundaryTeamsTest::nobodyCounted, x -> x.changes(0, 0));
        answers(0, Boundary::some, x -> x.changes(0, 80));
        for (int p = 0; p < 5; p++) {
            for (int q = p + 1; q < 5; q++) {
                OneTwoOneTwo x = withCount(5, 0, 4, 0);
                x.wish(p, q, true, 5);
                due(x.changes(0, 5), (p == 0 ? 0 : 1) + (q == 4 ? 0 : 1));
            }
        }
        answers(2, Boundary::some, x -> x.changes(0, 81));
        answers(2, Boundary::some, x -> x.changes(0, 100));
    }

    @Sentence(of = "Promise 30", says = "NONE: not by two.")
    static void promise30NotByTwo() {
        due(roundOfFour().most(0), 20);
        answers(NONE, BoundaryTeamsTest::roundOfFour, x -> x.changes(0, 11));
        answers(NONE, BoundaryTeamsTest::roundOfFour, x -> x.changes(0, 20));
        answers(NONE, BoundaryTeamsTest::roundOfFour, x -> x.changes(0, 9999));
        answers(NONE, BoundaryTeamsTest::nobodyCounted, x -> x.changes(0, 1));
        answers(NONE, BoundaryTeamsTest::mostlyEmpty, x -> x.changes(0, 1));
        OneTwoOneTwo full = withCount(14, 0, 2, 0);
        for (int i = 0; i < 20; i++) {
            full.wish(i % 14, (i + 1) % 14, true, 99);
        }
        due(full.changes(0, 1980), NONE);
    }

    @Sentence(of = "Promise 30", says = "BAD. (NONE isn't refused.)")
    static void promise30Bad() {
        for (int count : outside(0, 2)) {
            refused(BAD, Boundary::some, x -> x.changes(count, 0));
        }
        for (int v : outside(0, 9999)) {
            refused(BAD, Boundary::some, x -> x.changes(0, v));
        }
        answers(NONE, Boundary::some, x -> x.changes(0, 9999));
        refused(BAD, Boundary::empty, x -> x.changes(0, 0));
    }

    // ---- 31

    @Sentence(of = "Promise 31", says = "The PLACE to which a CHILD, alone, is MOVED so that VALUES by all "
        + "COUNTS together are greatest, of several the least.")
    static void promise31TheLeastOfTheGreatest() {
        answers(0, () -> children(14, 0), x -> x.place(13));
        answers(0, BoundaryTeamsTest::mostlyEmpty, x -> x.place(1));
        OneTwoOneTwo last = withCount(3, 0, 2, 0);
        last.wish(0, 1, true, 9);
        due(last.place(0), 2);
        due(last.place(1), 2);
        due(last.place(2), 1);
        OneTwoOneTwo stay = withCount(3, 3, 2, 1);
        stay.wish(0, 1, true, 9);
        due(stay.place(0), 0);
        due(stay.place(1), 0);
        due(stay.place(2), 2);
        stands(stay, 0, 1, 2);
        OneTwoOneTwo both = withCount(4, 0, 2, 0);
        both.wish(2, 3, false, 2);
        both.wish(2, 1, true, 2);
        due(both.place(2), 0);
        both.count(5, 3, 0);
        due(both.place(2), 3);
        for (int c = 2; c < 6; c++) {
            both.count(0, 2, 0);
        }
        due(both.place(2), 3);
    }

    @Sentence(of = "Promise 31", says = "BAD.")
    static void promise31Bad() {
        for (int child : outside(0, 4)) {
            refused(BAD, Boundary::some, x -> x.place(child));
        }
        refused(BAD, Boundary::empty, x -> x.place(0));
    }

    // ---- 32

    @Sentence(of = "Promise 32", says = "VALUE by a COUNT.")
    static void promise32NoneToAll() {
        answers(0, BoundaryTeamsTest::nobodyCounted, x -> x.value(0));
        answers(80, Boundary::some, x -> x.value(0));
        answers(30, Boundary::some, x -> x.value(1));
        answers(30, Boundary::some, x -> x.value(2));
        OneTwoOneTwo x = mostlyEmpty();
        for (int i = 1; i <= 20; i++) {
            x.wish(0, 1, false, 99);
            due(x.value(0), 99 * i);
        }
    }

    @Sentence(of = "Promise 32", says = "BAD.")
    static void promise32Bad() {
        for (int count : outside(0, 2)) {
            refused(BAD, Boundary::some, x -> x.value(count));
        }
        refused(BAD, Boundary::empty, x -> x.value(0));
    }

    // ---- 33

    @Sentence(of = "Promise 33", says = "Whether a WISH is MET by a COUNT: 1, 0.")
    static void promise33MetOrNot() {
        int[][] want = {{1, 1, 0}, {0, 1, 0}, {0, 1, 0}};
        for (int count = 0; count < 3; count++) {
            for (int i = 0; i < 3; i++) {
                due(some().met(count, i), want[count][i]);
            }
        }
    }

    @Sentence(of = "Promise 33", says = "BAD.")
    static void promise33Bad() {
        for (int count : outside(0, 2)) {
            refused(BAD, Boundary::some, x -> x.met(count, 0));
        }
        for (int i : outside(0, 2)) {
            refused(BAD, Boundary::some, x -> x.met(0, i));
        }
        refused(BAD, Boundary::empty, x -> x.met(0, 0));
    }
}
