import java.util.List;
import java.util.function.ToLongFunction;

/** Terms, COUNTING OFF, WHAT COMES OF IT, SHELVES and REFUSALS: what each sentence says at its edges. */
public final class BoundaryTermsTest extends Boundary {
    public static void main(String[] args) {
        run(BoundaryTermsTest.class);
    }

    // ---- counting off

    @Sentence(of = "Terms", says = "COUNT: p modulo N.")
    static void countWrapsAround() {
        counted(withCount(1, 0, 2, 0), 0, 0);
        counted(withCount(7, 0, 3, 0), 0, 0, 1, 2, 0, 1, 2, 0);
        counted(withCount(14, 0, 5, 13), 0, 0, 1, 2, 3, 4, 0, 1, 2, 3, 4, 0, 1, 2, 3);
    }

    @Sentence(of = "Terms", says = "BACK: n less 1 less p, modulo N.")
    static void backWrapsAroundFromTheFarEnd() {
        counted(withCount(1, 1, 5, 0), 0, 0);
        counted(withCount(7, 1, 3, 3), 0, 0, 2, 1, 0, 2, 1, 0);
        counted(withCount(8, 1, 3, 0), 0, 1, 0, 2, 1, 0, 2, 1, 0);
        counted(withCount(14, 1, 5, 0), 0, 3, 2, 1, 0, 4, 3, 2, 1, 0, 4, 3, 2, 1, 0);
    }

    @Sentence(of = "Terms", says = "JUMP: first PLACES 0, 2, 4 and so on are counted, then 1, 3, 5 and so on: "
        + "how many were ahead, modulo N.")
    static void jumpGoesOnAtTheOddPlaces() {
        counted(withCount(1, 2, 2, 0), 0, 0);
        counted(withCount(2, 2, 2, 0), 0, 0, 1);
        counted(withCount(3, 2, 2, 0), 0, 0, 0, 1);
        counted(withCount(7, 2, 3, 3), 0, 0, 1, 1, 2, 2, 0, 0);
        counted(withCount(8, 2, 3, 0), 0, 0, 1, 1, 2, 2, 0, 0, 1);
        counted(withCount(14, 2, 5, 0), 0, 0, 2, 1, 3, 2, 4, 3, 0, 4, 1, 0, 2, 1, 3);
    }

    @Sentence(of = "Terms", says = "SLIP: who stands at a says what the one ahead said, all behind go on from it: "
        + "p, less 1 from PLACE a on (a 0: never), modulo N.")
    static void slipSaysOneTwiceFromItsPlaceOn() {
        counted(withCount(7, 3, 3, 1), 0, 0, 0, 1, 2, 0, 1, 2);
        counted(withCount(7, 3, 3, 3), 0, 0, 1, 2, 2, 0, 1, 2);
        counted(withCount(7, 3, 3, 6), 0, 0, 1, 2, 0, 1, 2, 2);
        counted(withCount(7, 3, 3, 7), 0, 0, 1, 2, 0, 1, 2, 0);
        counted(withCount(14, 3, 5, 13), 0, 0, 1, 2, 3, 4, 0, 1, 2, 3, 4, 0, 1, 2, 2);
    }

    @Sentence(of = "Terms", says = "from PLACE a on (a 0: never)")
    static void slipAtNoneSlipsNever() {
        counted(withCount(7, 3, 3, 0), 0, 0, 1, 2, 0, 1, 2, 0);
        counted(withCount(7, 5, 3, 0), 0, 1, 2, 0, 1, 2, 0, 1);
        counted(withCount(1, 3, 2, 0), 0, 0);
    }

    @Sentence(of = "Terms", says = "TURNED: N less 1 less TEAM by BACK.")
    static void turnedWrapsAroundTheOtherWay() {
        counted(withCount(1, 4, 5, 0), 0, 4);
        counted(withCount(1, 4, 2, 0), 0, 1);
        counted(withCount(7, 4, 3, 3), 0, 2, 0, 1, 2, 0, 1, 2);
        counted(withCount(8, 4, 3, 0), 0, 1, 2, 0, 1, 2, 0, 1, 2);
    }

    @Sentence(of = "Terms", says = "LATE: 1 more than by SLIP, modulo N.")
    static void lateWrapsAround() {
        counted(withCount(1, 5, 2, 1), 0, 1);
        counted(withCount(7, 5, 3, 3), 0, 1, 2, 0, 0, 1, 2, 0);
        counted(withCount(7, 5, 2, 1), 0, 1, 1, 0, 1, 0, 1, 0);
        counted(withCount(7, 5, 3, 6), 0, 1, 2, 0, 1, 2, 0, 0);
    }

    @Sentence(of = "Terms", says = "MET: a WISH TOGETHER, if both are in one TEAM, PARTED, if they aren't.")
    static void togetherAndPartedAreMetEitherWay() {
        OneTwoOneTwo x = withCount(3, 0, 2, 0);
        x.wish(0, 2, true, 1);
        x.wish(0, 2, false, 1);
        x.wish(1, 0, true, 1);
        x.wish(1, 0, false, 1);
        int[] want = {1, 0, 0, 1};
        for (int i = 0; i < 4; i++) {
            due(x.met(0, i), want[i]);
        }
    }

    @Sentence(of = "Terms", says = "VALUE by a COUNT: WORTHS of all that is MET.")
    static void valueIsOfAllThatIsMet() {
        OneTwoOneTwo x = withCount(3, 0, 2, 0);
        due(x.value(0), 0);
        for (int i = 0; i < 20; i++) {
            due(x.value(0), 99 * i);
            x.wish(0, 2, true, 99);
        }
        due(x.value(0), 1980);
        x.content();
        x.wish(0, 1, true, 99);
        due(x.value(0), 0);
        x.wish(0, 1, false, 1);
        due(x.value(0), 1);
    }

    @Sentence(of = "Terms", says = "MOVED: a CHILD to a PLACE: those between come one PLACE nearer to where it was.")
    static void thoseBetweenComeNearer() {
        OneTwoOneTwo x = children(5, 0);
        x.move(1, 3);
        stands(x, 0, 2, 3, 1, 4);
        x.move(1, 1);
        stands(x, 0, 1, 2, 3, 4);
        x.move(0, 4);
        stands(x, 1, 2, 3, 4, 0);
        x.move(0, 0);
        stands(x, 0, 1, 2, 3, 4);
        x.move(2, 2);
        stands(x, 0, 1, 2, 3, 4);
    }

    // ---- what comes of it

    @Sentence(of = "Terms", says = "WHAT COMES OF IT (nothing is changed)")
    static void whatComesOfItChangesNothing() {
        List<ToLongFunction<OneTwoOneTwo>> asked = List.of(
            x -> x.turned(1), x -> x.unlike(0, 1), x -> x.unmet(0), x -> x.friendsOf(0), x -> x.groups(),
            x -> x.conflict(), x -> x.changes(1, 100), x -> x.changes(1, 1), x -> x.place(3), x -> x.value(1),
            x -> x.met(1, 1), x -> x.best(0), x -> x.best(1), x -> x.best(2), x -> x.even(1), x -> x.change(0),
            x -> x.far(0, 0, 3), x -> x.most(1), x -> x.always(0), x -> x.often(0, 1), x -> x.safe(0, 3),
            x -> x.out(3, 2), x -> x.outAt(3, 2), x -> x.stays(3), x -> x.fits(3), x -> x.moved(1, 3),
            x -> x.miscounted(3), x -> x.judge(0, 2), x -> x.judge(0, 3), x -> x.behind(0, 2, 1),
            x -> x.members(1, 0), x -> x.strength(1, 0), x -> x.heaviest(1), x -> x.says(1, 3));
        for (ToLongFunction<OneTwoOneTwo> call : asked) {
            answers(call.applyAsLong(some()), Boundary::some, call);
            due(call.applyAsLong(some()) >= NONE ? 1 : 0, 1);
        }
    }

    @Sentence(of = "Terms", says = "BEST COUNT: with the greatest VALUE, WORST: with the least, of several the first.")
    static void bestAndWorstAreTheFirstOfSeveral() {
        OneTwoOneTwo x = children(4, 0);
        for (int n : new int[] {3, 2, 4, 2, 5}) {
            x.count(0, n, 0);
        }
        due(x.best(0), 0);
        due(x.best(1), 0);
        x.wish(0, 2, true, 9);
        due(x.best(0), 1);
        due(x.best(1), 0);
        x.content();
        x.wish(0, 2, false, 9);
        due(x.best(0), 0);
        due(x.best(1), 1);
    }

    @Sentence(of = "Terms", says = "EVEN of a COUNT: the greatest sum of STRONG of a TEAM less the least "
        + "(of TEAMS by N, also empty ones).")
    static void evenIsOfEmptyTeamsToo() {
        OneTwoOneTwo x = strong(30, 50, 20);
        for (int n = 2; n <= 5; n++) {
            x.count(0, n, 0);
        }
        due(x.even(0), 0);
        due(x.even(1), 30);
        due(x.even(2), 50);
        due(x.even(3), 50);
        due(withCount(0, 0, 5, 0).even(0), 0);
        due(withCount(1, 4, 5, 0).even(0), 1);
    }

    @Sentence(of = "Terms", says = "EVENEST COUNT likewise.")
    static void evenestIsTheFirstOfSeveral() {
        OneTwoOneTwo x = strong(30, 50, 20);
        x.count(0, 5, 0);
        x.count(0, 3, 0);
        x.count(1, 3, 0);
        due(x.best(2), 1);
        x.count(1, 2, 0);
        due(x.best(2), 3);
        x.leaves();
        x.leaves();
        x.leaves();
        due(x.best(2), 0);
    }

    @Sentence(of = "Terms",
        says = "of all two CHILDREN (the lesser first) whose PLACES are no farther apart than STEP of each")
    static void changeIsNoFartherThanStepOfEach() {
        int[][] of = {{2, 2, 204}, {9, 2, 204}, {2, 9, 204}, {1, 2, NONE}, {2, 1, NONE}, {9, 1, NONE}, {1, 9, NONE}};
        for (int[] step : of) {
            OneTwoOneTwo x = steps(9, 9, step[0], 9, step[1]);
            x.count(0, 4, 0);
            x.wish(0, 2, true, 7);
            due(x.change(0), step[2]);
        }
    }

    @Sentence(of = "Terms",
        says = "by whose change VALUE is greatest, of several the first (100 times the lesser and the other)")
    static void changeIsTheFirstOfTheGreatest() {
        OneTwoOneTwo x = children(4, 9);
        x.count(0, 2, 0);
        x.wish(0, 1, true, 10);
        x.wish(2, 3, true, 10);
        due(x.change(0), 3);
        x.turn();
        due(x.change(0), 3);
        x.wish(1, 3, false, 1);
        due(x.change(0), 3);
        x.wish(0, 3, true, 99);
        due(x.change(0), 1);
        x.content();
        x.wish(3, 2, true, 5);
        due(x.change(0), 3);
        x.wish(1, 3, true, 1);
        due(x.change(0), 3);
        OneTwoOneTwo last = steps(0, 0, 0, 0, 0, 0, 0, 0, 0, 0, 0, 0, 9, 9);
        last.count(0, 5, 0);
        last.wish(13, 2, true, 1);
        due(last.change(0), 1213);
    }

    @Sentence(of = "Terms", says = "NONE: by none is it greater than now.")
    static void changeIsNoneIfNoneIsGreater() {
        OneTwoOneTwo x = children(4, 9);
        x.count(0, 2, 0);
        due(x.change(0), NONE);
        x.wish(0, 2, true, 5);
        x.wish(1, 2, true, 5);
        due(x.change(0), NONE);
        x.wish(1, 2, true, 1);
        due(x.change(0), 1);
    }

    @Sentence(of = "Terms", says = "how many PLACES one of them, alone, has to be MOVED at least, "
        + "so that both are in one TEAM (0: they are)")
    static void farIsTheShorterWayOfEither() {
        OneTwoOneTwo x = withCount(8, 0, 4, 0);
        due(x.far(0, 0, 4), 0);
        due(x.far(0, 4, 0), 0);
        due(x.far(0, 0, 5), 1);
        due(x.far(0, 1, 7), 2);
        due(x.far(0, 0, 1), 3);
        due(x.far(0, 1, 0), 3);
        OneTwoOneTwo onlyOne = withCount(3, 3, 3, 1);
        due(onlyOne.far(0, 0, 2), 1);
        due(onlyOne.far(0, 2, 0), 1);
    }

    @Sentence(of = "Terms", says = "NONE: it can't be.")
    static void farIsNoneIfItCantBe() {
        due(withCount(2, 0, 2, 0).far(0, 0, 1), NONE);
        due(withCount(5, 0, 5, 0).far(0, 0, 4), NONE);
        due(withCount(6, 0, 5, 0).far(0, 0, 4), 1);
        due(withCount(2, 3, 2, 1).far(0, 0, 1), 0);
    }

    @Sentence(of = "Terms", says = "MOST by a COUNT: the greatest VALUE by any ROW of all CHILDREN (8 at most).")
    static void mostIsOfEightAtMost() {
        due(withCount(0, 0, 2, 0).most(0), 0);
        OneTwoOneTwo x = withCount(8, 0, 5, 0);
        for (int i = 0; i < 7; i++) {
            x.wish(i, i + 1, true, 10 + i);
        }
        due(x.most(0), 16 + 14 + 12);
        due(x.most(0), 16 + 14 + 12);
        x.child(1, 0);
        due(x.most(0), STUCK);
        for (int n = 2; n <= 5; n++) {
            mostIsOfAnyRow(n);
        }
    }

    /** Asks for VALUE in all 120 ROWS of five children, with 20 WISHES, and then for MOST. */
    private static void mostIsOfAnyRow(int n) {
        OneTwoOneTwo x = children(5, 9);
        x.count(0, n, 0);
        for (int i = 0; i < 20; i++) {
            x.wish(i % 5, (i + 1 + i / 5) % 5, i % 3 != 0, 1 + 37 * i % 99);
        }
        int[] times = new int[5];
        int greatest = x.value(0);
        for (int k = 0; k < 5;) {
            if (times[k] < k) {
                x.swap(x.at(k % 2 == 0 ? 0 : times[k]), x.at(k));
                greatest = Math.max(greatest, x.value(0));
                times[k]++;
                k = 0;
            } else {
                times[k] = 0;
                k++;
            }
        }
        due(x.most(0), greatest);
    }

    @Sentence(of = "Terms", says = "ALWAYS of a CHILD: those (bits) who are in its TEAM by all COUNTS")
    static void alwaysIsByAllCounts() {
        OneTwoOneTwo x = children(14, 0);
        due(x.always(0), (1 << 14) - 1);
        x.count(0, 2, 0);
        due(x.always(13), 0b10101010101010);
        x.count(0, 3, 0);
        due(x.always(13), 1 << 13 | 1 << 7 | 1 << 1);
        x.count(0, 5, 0);
        due(x.always(13), 1 << 13);
    }

    @Sentence(of = "Terms", says = "OFTEN of two: by how many COUNTS they are in one.")
    static void oftenIsNoneToSix() {
        OneTwoOneTwo x = children(3, 0);
        due(x.often(0, 2), 0);
        for (int i = 1; i <= 6; i++) {
            x.count(0, 2, 0);
            due(x.often(0, 2), i);
            due(x.often(0, 1), 0);
        }
    }

    @Sentence(of = "Terms",
        says = "the PLACE to which the second one, alone, is MOVED so that OFTEN is greatest, of several the least.")
    static void safeIsTheLeastOfSeveral() {
        OneTwoOneTwo x = children(6, 0);
        due(x.safe(0, 5), 0);
        x.count(0, 2, 0);
        due(x.safe(0, 1), 2);
        due(x.safe(4, 3), 0);
        due(x.safe(3, 4), 0);
        x.count(0, 4, 0);
        due(x.safe(0, 1), 4);
        due(x.safe(4, 3), 0);
        due(x.safe(1, 5), 5);
    }

    @Sentence(of = "Terms", says = "OUT by k (1 to 20)")
    static void outIsByOneToTwenty() {
        OneTwoOneTwo x = children(5, 0);
        int[] byTwenty = {4, 3, 1, 0, 2};
        for (int i = 0; i < 5; i++) {
            due(x.out(1, i), i);
            due(x.out(20, i), byTwenty[i]);
        }
        for (int k : outside(1, 20)) {
            refused(BAD, Boundary::some, y -> y.out(k, 0));
        }
    }

    @Sentence(of = "Terms", says = "going round the ROW from PLACE 0 on, each k-th of those still there goes out")
    static void outGoesRound() {
        OneTwoOneTwo x = children(5, 0);
        x.turn();
        int[] byThree = {2, 4, 0, 3, 1};
        for (int i = 0; i < 5; i++) {
            due(x.out(3, i), byThree[i]);
        }
    }

    @Sentence(of = "Terms", says = "the i-th that does (0 on; the last one is who is left)")
    static void theLastOneOutIsWhoIsLeft() {
        OneTwoOneTwo x = children(5, 0);
        due(x.out(2, 0), 1);
        due(x.out(2, 4), 2);
        due(x.stays(2), 2);
        due(x.out(2, 5), BAD);
        due(x.out(2, -1), BAD);
        due(children(1, 0).out(20, 0), 0);
    }

    @Sentence(of = "Terms", says = "A told MORNING: a ROW of TEAMS, one for each CHILD by its number")
    static void aMorningIsToldByNumbers() {
        OneTwoOneTwo x = withCount(3, 0, 3, 0);
        x.move(0, 2);
        x.row(0, 0, 4);
        tell(x, 0, 2, 0, 1, 99);
        due(x.fits(0), 1);
        tell(x, 0, 0, 1, 2);
        due(x.fits(0), 0);
    }

    @Sentence(of = "Terms", says = "FITS: COUNTS (bits) by which it would be so.")
    static void fitsIsOfNoneToAllCounts() {
        OneTwoOneTwo x = children(2, 0);
        x.row(0, 4, 2);
        tell(x, 0, 0, 1);
        due(x.fits(0), 0);
        for (int i = 0; i < 6; i++) {
            x.count(0, 5 - i % 4, 0);
            due(x.fits(0), (2 << i) - 1);
        }
        tell(x, 0, 0, 0);
        due(x.fits(0), 0);
    }

    @Sentence(of = "Terms", says = "ONE MOVED by a COUNT: the first two (the lesser first) by whose "
        + "change of PLACES it would be so; NONE.")
    static void oneMovedIsTheFirstTwo() {
        OneTwoOneTwo x = withCount(4, 0, 2, 0);
        x.row(0, 0, 4);
        tell(x, 0, 1, 1, 0, 0);
        due(x.moved(0, 0), 3);
        tell(x, 0, 0, 0, 1, 1);
        due(x.moved(0, 0), 102);
        tell(x, 0, 0, 1, 1, 0);
        due(x.moved(0, 0), 203);
        tell(x, 0, 0, 1, 0, 1);
        due(x.moved(0, 0), 2);
        tell(x, 0, 1, 0, 1, 0);
        due(x.moved(0, 0), NONE);
        tell(x, 0, 0, 0, 0, 1);
        due(x.moved(0, 0), NONE);
        OneTwoOneTwo one = withCount(1, 0, 2, 0);
        one.row(0, 0, 1);
        due(one.moved(0, 0), NONE);
    }

    @Sentence(of = "Terms",
        says = "MISCOUNTED: the least number of CHILDREN who are in another TEAM than by the COUNT, over all COUNTS.")
    static void miscountedIsTheLeastOfAllCounts() {
        OneTwoOneTwo x = withCount(4, 0, 2, 0);
        x.row(0, 0, 4);
        tell(x, 0, 7, 7, 7, 7);
        due(x.miscounted(0), 4);
        tell(x, 0, 1, 0, 1, 0);
        due(x.miscounted(0), 4);
        x.count(2, 2, 0);
        due(x.miscounted(0), 2);
        x.count(1, 2, 0);
        due(x.miscounted(0), 0);
        x.count(0, 2, 0);
        due(x.miscounted(0), 0);
    }

    @Sentence(of = "Terms", says = "A told ROW of changes: elements 100 times one and another")
    static void changesAreToldAsHundreds() {
        OneTwoOneTwo x = children(14, 9);
        x.row(0, 1, 3);
        tell(x, 0, 1, 1312, 405);
        due(x.done(0, 3), 3);
        stands(x, 1, 0, 2, 3, 5, 4, 6, 7, 8, 9, 10, 11, 13, 12);
    }

    @Sentence(of = "Terms", says = "WRONG: the first that is no two")
    static void wrongIsWhatIsNoTwo() {
        OneTwoOneTwo x = children(4, 9);
        x.row(0, 3, 3);
        tell(x, 0, 1, 1, 1);
        for (long no : new long[] {0, 101, 303, 4, 400, 304, 99, 10_000, -1, -100, -301, (1L << 32) + 103,
            Long.MIN_VALUE, Long.MAX_VALUE}) {
            x.set(0, 2, no);
            due(x.judge(0, 3), 2);
            due(x.judge(0, 2), NONE);
        }
        tell(x, 0, 1, 0, 0);
        due(x.judge(0, 3), 1);
        x.set(0, 2, 301);
        x.set(0, 1, 103);
        due(x.judge(0, 3), NONE);
    }

    @Sentence(of = "Terms", says = "or farther apart than STEP of each, then; NONE.")
    static void wrongIsWhatIsTooFarThen() {
        OneTwoOneTwo x = steps(2, 1, 2, 1);
        x.row(0, 1, 2);
        tell(x, 0, 2, 103);
        due(x.judge(0, 1), NONE);
        due(x.judge(0, 2), 1);
        tell(x, 0, 203, 103);
        due(x.judge(0, 2), NONE);
        tell(x, 0, 103, 203);
        due(x.judge(0, 2), 0);
        tell(x, 0, 3, 203);
        due(x.judge(0, 2), 0);
        due(x.judge(0, 0), NONE);
    }

    @Sentence(of = "Terms", says = "VALUE by a COUNT behind it.")
    static void behindIsTheValueThen() {
        OneTwoOneTwo x = steps(9, 9, 9);
        x.count(0, 2, 0);
        x.wish(0, 1, true, 7);
        x.row(0, 1, 2);
        tell(x, 0, 102, 1);
        due(x.behind(0, 0, 0), 0);
        due(x.behind(0, 1, 0), 7);
        due(x.behind(0, 2, 0), 7);
        stands(x, 0, 1, 2);
    }

    // ---- in truth

    @Sentence(of = "Terms", says = "A TERM by draws, n times: two CHILDREN, a DRAW below how many there are each "
        + "(the same: nothing): they change PLACES, whatever their STEP")
    static void aTermChangesWhateverTheStep() {
        int moved = 0;
        for (int seed = 0; seed < 40; seed++) {
            OneTwoOneTwo x = children(5, 0);
            x.count(0, 2, 0);
            x.seed(seed);
            x.term(1);
            int a = drawn(seed, 1, 5);
            int b = drawn(seed, 2, 5);
            int[] who = {0, 1, 2, 3, 4};
            who[a] = b;
            who[b] = a;
            stands(x, who);
            moved += a == b ? 0 : 1;
        }
        due(moved > 0 && moved < 40 ? 1 : 0, 1);
    }

    @Sentence(of = "Terms", says = "a COUNT, a DRAW below how many there are: its VALUE is added.")
    static void aTermAddsTheValueOfACount() {
        for (int seed = 0; seed < 20; seed++) {
            OneTwoOneTwo x = children(2, 0);
            x.count(0, 2, 0);
            x.count(3, 2, 1);
            x.count(0, 3, 0);
            x.wish(0, 1, true, 9);
            x.wish(0, 1, false, 1);
            x.seed(seed);
            due(x.term(1), drawn(seed, 3, 3) == 1 ? 9 : 1);
        }
        OneTwoOneTwo alone = children(1, 0);
        alone.count(0, 2, 0);
        due(alone.term(60), 0);
    }

    @Sentence(of = "Terms", says = "SEED (1 at first)")
    static void theSeedIsOneAtFirst() {
        due(empty().status(6), 1);
        due(empty().seed(5), 1);
    }

    @Sentence(of = "Terms", says = "becomes SEED times 1103515245, and 12345 (an int, wrapping)")
    static void theSeedWrapsAround() {
        for (int seed : new int[] {0, 1, -1, 2, Integer.MAX_VALUE, Integer.MIN_VALUE}) {
            OneTwoOneTwo x = withCount(1, 0, 2, 0);
            x.seed(seed);
            x.term(1);
            due(x.status(6), (int) seedBehind(seed, 3));
            x.term(2);
            due(x.status(6), (int) seedBehind(seed, 9));
        }
    }

    @Sentence(of = "Terms", says = "its upper 16 bits, no sign, modulo n.")
    static void aDrawHasNoSign() {
        boolean negative = false;
        for (int seed = 100; seed < 120; seed++) {
            OneTwoOneTwo x = children(14, 0);
            x.count(0, 2, 0);
            x.seed(seed);
            x.term(1);
            negative |= (int) seedBehind(seed, 1) < 0;
            due(x.childOf(drawn(seed, 1, 14), 2), drawn(seed, 2, 14));
        }
        due(negative ? 1 : 0, 1);
    }

    private static long seedBehind(int seed, int draws) {
        long s = seed & 0xFFFFFFFFL;
        for (int i = 0; i < draws; i++) {
            s = s * 1103515245L + 12345L & 0xFFFFFFFFL;
        }
        return s;
    }

    private static int drawn(int seed, int number, int below) {
        return (int) ((seedBehind(seed, number) >> 16) % below);
    }

    // ---- shelves

    @Sentence(of = "Terms", says = "SHELVES 0 to 7 hold NOTHING (at first), a ROW, or a COUNT.")
    static void shelvesAreEight() {
        OneTwoOneTwo x = withCount(1, 0, 2, 0);
        for (int s = 0; s < 8; s++) {
            due(x.holds(s), NONE);
            due(x.row(s, 2, 1), 1);
            due(x.holds(s), 2);
            due(x.show(s, 0), 1);
            due(x.holds(s), 10);
            due(x.status(7), s + 1);
        }
        for (int s : outside(0, 7)) {
            due(x.row(s, 0, 0), BAD);
            due(x.show(s, 0), BAD);
            due(x.holds(s), NONE);
        }
    }

    @Sentence(of = "Terms", says = "A ROW has a SORT (0 bytes, 1 shorts, 2 ints, 3 longs, 4 booleans)")
    static void sortsAreFive() {
        OneTwoOneTwo x = empty();
        long[] want = {-1, -1, -1, -1, 1};
        for (int sort = 0; sort <= 4; sort++) {
            due(x.row(sort, sort, 1), 1);
            due(x.holds(sort), sort);
            x.set(sort, 0, -1);
            due(x.element(sort, 0), want[sort]);
        }
        for (int sort : outside(0, 4)) {
            refused(BAD, Boundary::some, y -> y.row(0, sort, 1));
        }
    }

    @Sentence(of = "Terms", says = "0 to 40 elements")
    static void rowsHaveNoneToFortyElements() {
        OneTwoOneTwo x = empty();
        due(x.row(0, 3, 0), 1);
        due(x.set(0, 0, 1), BAD);
        due(x.row(0, 3, 40), 1);
        due(x.set(0, 39, 1), 1);
        due(x.element(0, 39), 1);
        due(x.set(0, 40, 1), BAD);
        for (int n : outside(0, 40)) {
            refused(BAD, Boundary::some, y -> y.row(0, 3, n));
        }
    }

    @Sentence(of = "Terms", says = "(0, or not so, at first)")
    static void elementsAreNoneAtFirst() {
        OneTwoOneTwo x = empty();
        for (int sort = 0; sort <= 4; sort++) {
            x.row(0, sort, 40);
            due(x.element(0, 0), 0);
            due(x.element(0, 39), 0);
            x.set(0, 0, 1);
            x.set(0, 39, 1);
        }
        x.row(0, 4, 40);
        due(x.element(0, 0), 0);
        due(x.element(0, 39), 0);
    }

    @Sentence(of = "Terms", says = "what is put in keeps its lowest bits")
    static void lowestBitsAreKept() {
        OneTwoOneTwo x = empty();
        for (int sort = 0; sort <= 3; sort++) {
            x.row(sort, sort, 1);
        }
        keeps(x, 0, 127, 127);
        keeps(x, 0, 128, -128);
        keeps(x, 0, 256, 0);
        keeps(x, 0, -129, 127);
        keeps(x, 1, 32767, 32767);
        keeps(x, 1, 32768, -32768);
        keeps(x, 1, 65536, 0);
        keeps(x, 1, -32769, 32767);
        keeps(x, 2, Integer.MAX_VALUE, Integer.MAX_VALUE);
        keeps(x, 2, Integer.MAX_VALUE + 1L, Integer.MIN_VALUE);
        keeps(x, 2, 1L << 32, 0);
        keeps(x, 3, Long.MAX_VALUE, Long.MAX_VALUE);
        keeps(x, 3, Long.MIN_VALUE, Long.MIN_VALUE);
    }

    private static void keeps(OneTwoOneTwo x, int s, long v, long want) {
        due(x.set(s, 0, v), 1);
        due(x.element(s, 0), want);
    }

    @Sentence(of = "Terms", says = "(of booleans: whether it is not 0); told they are numbers (1, 0)")
    static void booleansAreWhetherItIsNotNone() {
        OneTwoOneTwo x = empty();
        x.row(0, 4, 1);
        for (long v : new long[] {1, 2, -1, 256, 1L << 32, Long.MIN_VALUE}) {
            keeps(x, 0, v, 1);
            keeps(x, 0, 0, 0);
        }
    }

    // ---- refusals

    @Sentence(of = "Terms", says = "the call answers the number; nothing changes but how many there were")
    static void aRefusalChangesNothing() {
        List<ToLongFunction<OneTwoOneTwo>> bad = List.of(
            x -> x.row(0, 5, 1), x -> x.set(0, 6, 1), x -> x.copy(0, 0, 0, 1, 6), x -> x.show(0, 3), x -> x.says(1, 6),
            x -> x.child(0, 0), x -> x.count(0, 1, 0), x -> x.wish(0, 0, true, 1), x -> x.feed(256),
            x -> x.childOf(0, 4), x -> x.countOf(0, 3), x -> x.wishOf(0, 4), x -> x.at(5),
            x -> x.team(0, 5), x -> x.members(0, 2), x -> x.strength(0, 2), x -> x.heaviest(3),
            x -> x.turned(3), x -> x.unlike(0, 3), x -> x.unmet(3),
            x -> x.friendsOf(5), x -> x.changes(0, 10_000), x -> x.place(5), x -> x.value(3), x -> x.met(0, 3),
            x -> x.best(3), x -> x.even(3), x -> x.change(3), x -> x.far(0, 0, 0), x -> x.most(3), x -> x.always(5),
            x -> x.often(0, 0), x -> x.safe(0, 0), x -> x.out(21, 0), x -> x.outAt(21, 0), x -> x.stays(5),
            x -> x.fits(2), x -> x.moved(0, 2), x -> x.miscounted(2), x -> x.judge(0, 7), x -> x.behind(0, 7, 0),
            x -> x.done(0, 7), x -> x.swap(0, 5), x -> x.move(0, 5), x -> x.term(61));
        for (ToLongFunction<OneTwoOneTwo> call : bad) {
            refused(BAD, Boundary::some, call);
        }
        refused(OTHER, Boundary::some, x -> x.set(1, 0, 1));
        refused(NOTHING, Boundary::some, x -> x.set(4, 0, 1));
        refused(STUCK, Boundary::some, x -> x.done(0, 3));
        refused(FULL, () -> children(14, 0), x -> x.child(1, 0));
    }

    @Sentence(of = "Terms", says = "the first that fits as each line has them")
    static void theFirstRefusalThatFits() {
        refused(BAD, Boundary::some, x -> x.copy(1, 8, 0, 0, 0));
        refused(OTHER, Boundary::some, x -> x.copy(1, 4, 0, 0, -1));
        refused(NOTHING, Boundary::some, x -> x.copy(0, 4, 0, 0, -1));
        refused(BAD, () -> children(14, 0), x -> x.child(0, 0));
        refused(BAD, Boundary::empty, x -> x.best(3));
        refused(BAD, Boundary::some, x -> x.moved(3, 4));
    }

    @Sentence(of = "Terms", says = "-2 BAD a number that may not be, nothing of that number.")
    static void badIsMinusTwo() {
        refused(-2, Boundary::some, x -> x.feed(-1));
        refused(-2, Boundary::some, x -> x.at(5));
        refused(-2, Boundary::empty, x -> x.value(0));
    }

    @Sentence(of = "Terms", says = "-3 OTHER: a SHELF that holds another thing than is wanted.")
    static void otherIsMinusThree() {
        refused(-3, Boundary::some, x -> x.fits(1));
        refused(-3, Boundary::some, x -> x.says(0, 0));
    }

    @Sentence(of = "Terms", says = "-4 NOTHING: a SHELF that holds NOTHING.")
    static void nothingIsMinusFour() {
        refused(-4, Boundary::some, x -> x.fits(4));
        refused(-4, Boundary::some, x -> x.says(7, 0));
    }

    @Sentence(of = "Terms", says = "-5 STUCK: it can't be as things stand.")
    static void stuckIsMinusFive() {
        refused(-5, Boundary::some, x -> x.swap(0, 4));
        refused(-5, Boundary::empty, x -> x.leaves());
    }

    @Sentence(of = "Terms", says = "-6 FULL.")
    static void fullIsMinusSix() {
        refused(-6, () -> children(14, 0), x -> x.child(99, 9));
    }

    @Sentence(of = "What it is", says = "An object is used for at most 512 calls after it has been made")
    static void theLastCallThatCountsIsAnswered() {
        OneTwoOneTwo x = empty();
        for (int call = 1; call <= 511; call++) {
            due(x.child(0, 0), BAD);
        }
        due(x.status(12), 511);
    }
}
