/** Terms, THE YARD: how many there may be of everything, and what a YARD on THE TAPE may be. */
public final class BoundaryYardTest extends Boundary {
    public static void main(String[] args) {
        run(BoundaryYardTest.class);
    }

    private static OneTwoOneTwo two() {
        return children(2, 0);
    }

    // ---- how many, how much

    @Sentence(of = "Terms", says = "CHILDREN have numbers, 0 on, 14 at most")
    static void childrenAreFourteenAtMost() {
        OneTwoOneTwo x = empty();
        for (int c = 0; c < 14; c++) {
            due(x.child(1, 0), c);
        }
        due(x.child(1, 0), FULL);
        due(x.status(0), 14);
    }

    @Sentence(of = "Terms", says = "each STRONG (1 to 99)")
    static void strongIsOneToNinetyNine() {
        OneTwoOneTwo x = empty();
        due(x.child(1, 0), 0);
        due(x.childOf(0, 0), 1);
        due(x.child(99, 0), 1);
        due(x.childOf(1, 0), 99);
        for (int strong : outside(1, 99)) {
            refused(BAD, Boundary::some, y -> y.child(strong, 0));
        }
    }

    @Sentence(of = "Terms", says = "with a STEP (0 to 9)")
    static void stepIsNoneToNine() {
        OneTwoOneTwo x = empty();
        due(x.child(1, 0), 0);
        due(x.childOf(0, 1), 0);
        due(x.child(1, 9), 1);
        due(x.childOf(1, 1), 9);
        for (int step : outside(0, 9)) {
            refused(BAD, Boundary::some, y -> y.child(1, step));
        }
    }

    @Sentence(of = "Terms", says = "a PLACE each, 0 on (a new one at its end)")
    static void aNewChildStandsAtTheEnd() {
        OneTwoOneTwo x = empty();
        x.child(1, 0);
        stands(x, 0);
        x.child(1, 0);
        x.turn();
        stands(x, 1, 0);
        x.child(1, 0);
        stands(x, 1, 0, 2);
    }

    @Sentence(of = "Terms", says = "COUNTS have numbers, 0 on, 6 at most")
    static void countsAreSixAtMost() {
        OneTwoOneTwo x = empty();
        for (int c = 0; c < 6; c++) {
            due(x.count(0, 2, 0), c);
        }
        due(x.count(0, 2, 0), FULL);
        due(x.status(1), 6);
    }

    @Sentence(of = "Terms", says = "each of a KIND: 0 COUNT; 1 BACK, 2 JUMP, 3 SLIP, each under COUNT; "
        + "4 TURNED, under BACK; 5 LATE, under SLIP")
    static void kindsAreNoneToFive() {
        int[][] over = {{0}, {0, 1}, {0, 2}, {0, 3}, {0, 1, 4}, {0, 3, 5}};
        OneTwoOneTwo x = two();
        for (int kind = 0; kind <= 5; kind++) {
            due(x.count(kind, 2, 0), kind);
            due(x.countOf(kind, 0), kind);
            x.show(0, kind);
            for (int taken = 0; taken <= 5; taken++) {
                int as = taken;
                boolean may = java.util.Arrays.stream(over[kind]).anyMatch(k -> k == as);
                due(x.says(0, taken) == OTHER ? 0 : 1, may ? 1 : 0);
            }
        }
        for (int kind : outside(0, 5)) {
            refused(BAD, Boundary::some, y -> y.count(kind, 2, 0));
        }
    }

    @Sentence(of = "Terms", says = "by N (2 to 5 TEAMS, 0 on)")
    static void teamsAreTwoToFive() {
        OneTwoOneTwo x = children(14, 0);
        for (int n = 2; n <= 5; n++) {
            due(x.count(0, n, 0), n - 2);
            due(x.countOf(n - 2, 1), n);
            due(x.members(n - 2, 0) & 1, 1);
            due(x.members(n - 2, n - 1) >> n - 1 & 1, 1);
            due(x.members(n - 2, n), BAD);
        }
        for (int n : outside(2, 5)) {
            refused(BAD, Boundary::some, y -> y.count(0, n, 0));
        }
    }

    @Sentence(of = "Terms", says = "a (0 to 13)")
    static void slipIsNoneToThirteen() {
        OneTwoOneTwo x = empty();
        due(x.count(3, 2, 0), 0);
        due(x.countOf(0, 2), 0);
        due(x.count(3, 2, 13), 1);
        due(x.countOf(1, 2), 13);
        for (int a : outside(0, 13)) {
            refused(BAD, Boundary::some, y -> y.count(3, 2, a));
        }
    }

    @Sentence(of = "Terms", says = "WISHES, 20 at most")
    static void wishesAreTwentyAtMost() {
        OneTwoOneTwo x = two();
        for (int i = 1; i <= 20; i++) {
            due(x.wish(0, 1, true, 1), i);
        }
        due(x.wish(0, 1, true, 1), FULL);
        due(x.status(2), 20);
    }

    @Sentence(of = "Terms", says = "two CHILDREN, TOGETHER or PARTED")
    static void aWishIsOfTwo() {
        OneTwoOneTwo x = two();
        due(x.wish(1, 0, true, 1), 1);
        due(x.wish(0, 1, false, 1), 2);
        due(x.wishOf(0, 2), 1);
        due(x.wishOf(1, 2), 0);
        due(x.wish(0, 0, true, 1), BAD);
        due(x.wish(1, 1, false, 1), BAD);
    }

    @Sentence(of = "Terms", says = "a WORTH (1 to 99)")
    static void worthIsOneToNinetyNine() {
        OneTwoOneTwo x = two();
        due(x.wish(0, 1, true, 1), 1);
        due(x.wishOf(0, 3), 1);
        due(x.wish(0, 1, true, 99), 2);
        due(x.wishOf(1, 3), 99);
        for (int worth : outside(1, 99)) {
            refused(BAD, Boundary::some, y -> y.wish(0, 1, true, worth));
        }
    }

    @Sentence(of = "Terms", says = "THE TAPE (bytes, 250 at most)")
    static void theTapeIsTwoHundredAndFiftyAtMost() {
        OneTwoOneTwo x = empty();
        for (int i = 1; i <= 250; i++) {
            due(x.feed(i <= 9 ? "child 1 0".charAt(i - 1) : ' '), i);
        }
        due(x.feed(' '), FULL);
        due(x.status(5), 250);
        due(x.yard(), 1);
    }

    // ---- tokens

    @Sentence(of = "Terms", says = "TOKENS, each as long as can be")
    static void tokensAreAsLongAsCanBe() {
        fault(0, BoundaryYardTest::two, "childchild 1 0");
        fault(0, BoundaryYardTest::two, "withou 0 1 1");
        fault(0, BoundaryYardTest::two, "withoutx 0 1 1");
        fault(6, BoundaryYardTest::two, "child 100");
        fault(4, BoundaryYardTest::two, "with011");
        OneTwoOneTwo x = two();
        due(read(x, "without0 1 1"), 1);
        due(x.wishOf(0, 2), 0);
    }

    @Sentence(of = "Terms", says = "WORDS (a .. z)")
    static void wordsAreOfSmallLetters() {
        for (String word : new String[] {"zhild", "chilz", "czunt", "wizh", "aithout", "wswap", "mov", "a", "z"}) {
            fault(0, BoundaryYardTest::two, word + " 1 0");
        }
        fault(0, BoundaryYardTest::two, "childa 1 0");
        fault(0, BoundaryYardTest::two, "childz 1 0");
        fault(5, BoundaryYardTest::two, "child` 1 0");
        fault(5, BoundaryYardTest::two, "child{ 1 0");
        fault(5, BoundaryYardTest::two, "childA 1 0");
        fault(0, BoundaryYardTest::two, "CHILD 1 0");
        fault(5, BoundaryYardTest::two, "child" + (char) 225 + " 1 0");
    }

    @Sentence(of = "Terms", says = "NUMBERS (digits)")
    static void numbersAreOfDigits() {
        OneTwoOneTwo x = empty();
        due(read(x, "child 90 9;child 10 0"), 2);
        due(x.childOf(0, 0), 90);
        due(x.childOf(0, 1), 9);
        due(x.childOf(1, 0), 10);
        due(x.childOf(1, 1), 0);
        fault(7, BoundaryYardTest::two, "child 1/ 0");
        fault(7, BoundaryYardTest::two, "child 1: 0");
        fault(6, BoundaryYardTest::two, "child -1 0");
        fault(6, BoundaryYardTest::two, "child +1 0");
        fault(7, BoundaryYardTest::two, "child 1x 0");
    }

    @Sentence(of = "Terms", says = "the SIGN ;")
    static void theSignIsATokenOfItsOwn() {
        OneTwoOneTwo x = empty();
        due(read(x, "child 1 0;child 2 0 ; child 3 0"), 3);
        fault(9, BoundaryYardTest::two, "child 1 0:child 1 0");
        fault(9, BoundaryYardTest::two, "child 1 0,child 1 0");
        fault(10, BoundaryYardTest::two, "child 1 0;;child 1 0");
    }

    @Sentence(of = "Terms", says = "blanks (32) may stand anywhere between")
    static void blanksMayStandAnywhereBetween() {
        OneTwoOneTwo x = empty();
        due(read(x, "   child   12   3   ;   child4 5;child 6 07   "), 3);
        due(x.childOf(0, 0), 12);
        due(x.childOf(1, 1), 5);
        due(x.childOf(2, 1), 7);
        fault(0, BoundaryYardTest::two, "chi ld 1 0");
        fault(10, BoundaryYardTest::two, "child 1 0 0");
        for (int letter : new int[] {0, 9, 10, 13, 31, 33, 160, 255}) {
            fault(5, BoundaryYardTest::two, "child" + (char) letter + "1 0");
        }
    }

    // ---- statements

    @Sentence(of = "Terms", says = "STATEMENTS, one or more, with ; between")
    static void statementsAreOneOrMore() {
        OneTwoOneTwo x = empty();
        due(read(x, "child 1 0"), 1);
        due(read(x, "child 1 0;child 1 0"), 2);
        fault(0, BoundaryYardTest::two, "");
        fault(0, BoundaryYardTest::two, ";");
        fault(0, BoundaryYardTest::two, ";child 1 0");
        fault(10, BoundaryYardTest::two, "child 1 0;");
        fault(10, BoundaryYardTest::two, "child 1 0 child 1 0");
    }

    @Sentence(of = "Terms", says = "child S T (STRONG, STEP)")
    static void childOnTheTape() {
        OneTwoOneTwo x = empty();
        due(read(x, "child 1 0;child 99 9"), 2);
        due(x.childOf(0, 0), 1);
        due(x.childOf(0, 1), 0);
        due(x.childOf(1, 0), 99);
        due(x.childOf(1, 1), 9);
        fault(6, BoundaryYardTest::two, "child 0 0");
        fault(8, BoundaryYardTest::two, "child 1 10");
        fault(8, BoundaryYardTest::two, "child 1 ;");
        fault(10, BoundaryYardTest::two, "child 1 1 1");
    }

    @Sentence(of = "Terms", says = "count K N A")
    static void countOnTheTape() {
        OneTwoOneTwo x = empty();
        due(read(x, "count 0 2 0;count 5 5 13"), 2);
        int[][] want = {{0, 2, 0}, {5, 5, 13}};
        for (int c = 0; c < 2; c++) {
            for (int what = 0; what < 3; what++) {
                due(x.countOf(c, what), want[c][what]);
            }
        }
        fault(6, BoundaryYardTest::two, "count 6 2 0");
        fault(8, BoundaryYardTest::two, "count 0 1 0");
        fault(8, BoundaryYardTest::two, "count 0 6 0");
        fault(10, BoundaryYardTest::two, "count 0 2 14");
        fault(10, BoundaryYardTest::two, "count 0 2 ;");
        fault(12, BoundaryYardTest::two, "count 0 2 0 0");
    }

    @Sentence(of = "Terms", says = "with P Q W, without P Q W (WISHES TOGETHER, PARTED)")
    static void wishesOnTheTape() {
        OneTwoOneTwo x = two();
        due(read(x, "with 1 0 99;without 0 1 1"), 2);
        int[][] want = {{1, 0, 1, 99}, {0, 1, 0, 1}};
        for (int i = 0; i < 2; i++) {
            for (int what = 0; what < 4; what++) {
                due(x.wishOf(i, what), want[i][what]);
            }
        }
        fault(5, BoundaryYardTest::two, "with 2 0 1");
        fault(7, BoundaryYardTest::two, "with 0 2 1");
        fault(9, BoundaryYardTest::two, "with 0 1 0");
        fault(8, BoundaryYardTest::two, "without 2 0 1");
        fault(10, BoundaryYardTest::two, "without 0 2 1");
        fault(12, BoundaryYardTest::two, "without 0 1 0");
        fault(12, BoundaryYardTest::two, "with 0 1 99 1");
        fault(5, Boundary::empty, "with 0 1 1");
    }

    @Sentence(of = "Terms", says = "swap P Q (they change PLACES, whatever their STEP; not the same)")
    static void swapOnTheTape() {
        OneTwoOneTwo x = children(14, 0);
        due(read(x, "swap 0 13"), 1);
        stands(x, 13, 1, 2, 3, 4, 5, 6, 7, 8, 9, 10, 11, 12, 0);
        due(read(x, "swap 13 0;swap 2 1"), 2);
        stands(x, 0, 2, 1, 3, 4, 5, 6, 7, 8, 9, 10, 11, 12, 13);
        fault(7, BoundaryYardTest::two, "swap 1 1");
        fault(7, BoundaryYardTest::two, "swap 0 2");
        fault(5, BoundaryYardTest::two, "swap 2 0");
        fault(9, BoundaryYardTest::two, "swap 0 1 1");
        fault(5, Boundary::empty, "swap 0 0");
    }

    @Sentence(of = "Terms", says = "move P X (to a PLACE: MOVED)")
    static void moveOnTheTape() {
        OneTwoOneTwo x = children(4, 0);
        due(read(x, "move 0 3"), 1);
        stands(x, 1, 2, 3, 0);
        due(read(x, "move 3 0"), 1);
        stands(x, 3, 1, 2, 0);
        due(read(x, "move 1 1"), 1);
        stands(x, 3, 1, 2, 0);
        fault(7, BoundaryYardTest::two, "move 0 2");
        fault(5, BoundaryYardTest::two, "move 2 0");
        fault(9, BoundaryYardTest::two, "move 0 1 1");
        fault(5, Boundary::empty, "move 0 0");
    }

    @Sentence(of = "Terms", says = "All comes to what there is, or nothing.")
    static void allOfTheTapeOrNothing() {
        OneTwoOneTwo x = two();
        due(read(x, "child 9 9;count 0 2 0;with 2 0 5;swap 0 2;move 1 0"), 5);
        stands(x, 1, 2, 0);
        due(x.status(1), 1);
        due(x.status(3), 5);
        String all = "child 9 9;count 0 2 0;with 2 0 5;swap 0 2;move 1 0;";
        fault(all.length(), BoundaryYardTest::two, all);
        fault(all.length(), Boundary::some, all + "stop");
    }

    // ---- faults

    @Sentence(of = "Terms", says = "the place of the first byte of the first TOKEN that can't stand there")
    static void theFaultIsTheFirstTokenThatCantStand() {
        fault(0, BoundaryYardTest::two, "children 1 0");
        fault(2, BoundaryYardTest::two, "  stop");
        fault(0, BoundaryYardTest::two, "5 child 1 0");
        fault(6, BoundaryYardTest::two, "child with 0 1 1");
        fault(13, BoundaryYardTest::two, "child 1 0  ; 5");
        fault(6, BoundaryYardTest::two, "child 0 10;x");
        fault(249, BoundaryYardTest::two, "child 1 0" + " ".repeat(240) + "1");
    }

    @Sentence(of = "Terms", says = "also a NUMBER that may not be")
    static void aNumberThatMayNotBeIsAFault() {
        fault(6, BoundaryYardTest::two, "child 00 1");
        fault(5, BoundaryYardTest::two, "with 99 0 1");
        fault(7, BoundaryYardTest::two, "swap 0 14");
        fault(15, BoundaryYardTest::two, "child 1 0;swap 3 0");
        OneTwoOneTwo x = two();
        due(read(x, "child 1 0;swap 2 0"), 2);
        stands(x, 2, 1, 0);
    }

    @Sentence(of = "Terms", says = "or has more than 2 digits")
    static void aNumberHasTwoDigitsAtMost() {
        OneTwoOneTwo x = empty();
        due(read(x, "child 01 00;count 00 02 00;child 09 09;with 01 00 01"), 4);
        due(x.childOf(0, 0), 1);
        due(x.childOf(1, 1), 9);
        fault(6, BoundaryYardTest::two, "child 001 0");
        fault(8, BoundaryYardTest::two, "child 1 000");
        fault(7, BoundaryYardTest::two, "with 0 001 1");
        fault(6, BoundaryYardTest::two, "child 4294967297 0");
    }

    @Sentence(of = "Terms", says = "the same CHILD: Q")
    static void theSameChildIsAFaultAtTheSecond() {
        fault(7, BoundaryYardTest::two, "with 0 0 0");
        fault(10, BoundaryYardTest::two, "without 1 01 1");
        fault(7, BoundaryYardTest::two, "swap 1 1 1");
    }

    @Sentence(of = "Terms", says = "what there is no room for: its word")
    static void whatThereIsNoRoomForIsAFaultAtItsWord() {
        fault(0, () -> children(14, 0), "child 0 0");
        fault(12, () -> children(13, 0), "child 1 0 ; child 1 0");
        fault(0, BoundaryYardTest::sixCounts, "count 9");
        fault(13, BoundaryYardTest::sixCounts, " child 1 0 ; count 0 2 0");
        fault(0, BoundaryYardTest::twentyWishes, "with 0 1 1");
        fault(1, BoundaryYardTest::twentyWishes, " without 0 0 0");
        OneTwoOneTwo x = children(13, 0);
        due(read(x, "child 1 0"), 1);
        due(x.status(16), 0);
    }

    private static OneTwoOneTwo sixCounts() {
        OneTwoOneTwo x = children(2, 0);
        for (int i = 0; i < 6; i++) {
            x.count(i, 2, 0);
        }
        return x;
    }

    private static OneTwoOneTwo twentyWishes() {
        OneTwoOneTwo x = children(2, 0);
        for (int i = 0; i < 20; i++) {
            x.wish(0, 1, true, 1);
        }
        return x;
    }

    @Sentence(of = "Terms", says = "a byte that begins none")
    static void aByteThatBeginsNoTokenIsAFault() {
        for (int letter : new int[] {0, 31, 33, 47, 58, 60, 64, 65, 90, 91, 96, 123, 127, 128, 255}) {
            fault(9, BoundaryYardTest::two, "child 1 0" + (char) letter);
        }
        fault(0, BoundaryYardTest::two, "!child 1 0");
    }

    @Sentence(of = "Terms", says = "THE TAPE's size, if it ends too early")
    static void aTapeThatEndsTooEarlyIsAFaultAtItsSize() {
        fault(0, BoundaryYardTest::two, "");
        fault(3, BoundaryYardTest::two, "   ");
        fault(5, BoundaryYardTest::two, "child");
        fault(9, BoundaryYardTest::two, "child 1  ");
        fault(9, BoundaryYardTest::two, "count 0 2");
        fault(8, BoundaryYardTest::two, "with 0 1");
        fault(6, BoundaryYardTest::two, "swap 1");
        fault(6, BoundaryYardTest::two, "move 1");
        fault(12, BoundaryYardTest::two, "child 1 0;  ");
        fault(250, BoundaryYardTest::two, "child 1" + " ".repeat(243));
    }
}
