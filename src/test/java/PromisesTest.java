/** For each promise: ordinary inputs, the edges that the document names, and wrong inputs. */
public final class PromisesTest {
    private static final Due DUE = new Due();
    private static final int BAD = -2;
    private static final int OTHER = -3;
    private static final int NOTHING = -4;
    private static final int STUCK = -5;
    private static final int FULL = -6;

    public static void main(String[] args) {
        newObject();
        shelfRows();
        shelfCopies();
        shelfCounts();
        sayings();
        children();
        counts();
        wishes();
        tape();
        yardRead();
        yardFaults();
        yardRoom();
        whatThereIs();
        teams();
        teamsByEveryKind();
        friends();
        changesOfTwo();
        placesAndFar();
        bestAndEven();
        most();
        alwaysOftenSafe();
        countingOut();
        mornings();
        toldChanges();
        inTruth();
        leaving();
        terms();
        images();
        refusalsAreCounted();
        DUE.end();
    }

    /** A yard of n children, strong 1, 2, 3 and so on, all with the same step. */
    private static OneTwoOneTwo yardOf(int n, int step) {
        OneTwoOneTwo x = new OneTwoOneTwo();
        for (int i = 0; i < n; i++) {
            x.child(i + 1, step);
        }
        return x;
    }

    private static int read(OneTwoOneTwo x, String text) {
        for (int i = 0; i < text.length(); i++) {
            x.feed(text.charAt(i));
        }
        return x.yard();
    }

    private static void reads(OneTwoOneTwo x, String text, int want) {
        DUE.is("yard \"" + text + "\"", read(x, text), want);
    }

    private static void stands(OneTwoOneTwo x, String name, int... who) {
        DUE.is(name + ": children", x.status(0), who.length);
        for (int p = 0; p < who.length; p++) {
            DUE.is(name + ": at " + p, x.at(p), who[p]);
            DUE.is(name + ": place of " + who[p], x.childOf(who[p], 2), p);
        }
    }

    // ---- 1
    private static void newObject() {
        OneTwoOneTwo x = new OneTwoOneTwo();
        for (int what = -1; what < 20; what++) {
            int want = what == 6 ? 1 : (what >= 0 && what <= 7) || (what >= 12 && what <= 16) ? 0 : -1;
            DUE.is("1 status(" + what + ")", x.status(what), want);
        }
        for (int s = -1; s < 9; s++) {
            DUE.is("1 holds " + s, x.holds(s), -1);
        }
        DUE.is("1 NONE", OneTwoOneTwo.NONE, -1);
        DUE.is("59 of what there isn't is not refused", x.status(12), 0);
    }

    // ---- 2, 3, 5, 6
    private static void shelfRows() {
        OneTwoOneTwo x = new OneTwoOneTwo();
        for (int sort = 0; sort <= 4; sort++) {
            DUE.is("2 row", x.row(sort, sort, 3), 1);
            DUE.is("6 sort", x.holds(sort), sort);
            DUE.is("3 set", x.set(sort, 1, 0x123456789ABCDEF0L), 1);
            DUE.is("5 at first", x.element(sort, 0), 0);
        }
        DUE.is("3 byte", x.element(0, 1), (byte) 0xF0);
        DUE.is("3 short", x.element(1, 1), (short) 0xDEF0);
        DUE.is("3 int", x.element(2, 1), 0x9ABCDEF0);
        DUE.is("3 long", x.element(3, 1), 0x123456789ABCDEF0L);
        DUE.is("3 boolean", x.element(4, 1), 1);
        DUE.is("3 boolean of high bits", x.set(4, 2, 1L << 40), 1);
        DUE.is("3 boolean is not 0", x.element(4, 2), 1);
        DUE.is("3 boolean 0", x.set(4, 2, 0), 1);
        DUE.is("3 boolean is 0", x.element(4, 2), 0);
        DUE.is("3 int of 2^32", x.set(2, 0, 1L << 32), 1);
        DUE.is("3 int keeps 0", x.element(2, 0), 0);
        DUE.is("2 s -1", x.row(-1, 0, 0), BAD);
        DUE.is("2 s 8", x.row(8, 0, 0), BAD);
        DUE.is("2 sort -1", x.row(0, -1, 0), BAD);
        DUE.is("2 sort 5", x.row(0, 5, 0), BAD);
        DUE.is("2 n -1", x.row(0, 0, -1), BAD);
        DUE.is("2 n 41", x.row(0, 0, 41), BAD);
        DUE.is("2 refused: as it was", x.element(0, 1), (byte) 0xF0);
        DUE.is("2 n 40", x.row(7, 3, 40), 1);
        DUE.is("3 last", x.set(7, 39, -5), 1);
        DUE.is("5 last", x.element(7, 39), -5);
        DUE.is("3 behind it", x.set(7, 40, 1), BAD);
        DUE.is("3 i -1", x.set(7, -1, 1), BAD);
        DUE.is("2 anew", x.row(7, 3, 40), 1);
        DUE.is("2 a new row is 0", x.element(7, 39), 0);
        DUE.is("2 n 0", x.row(6, 2, 0), 1);
        DUE.is("6 empty row", x.holds(6), 2);
        DUE.is("3 of none", x.set(6, 0, 1), BAD);
        DUE.is("3 s 8", x.set(8, 0, 1), BAD);
        DUE.is("3 s -1", x.set(-1, 0, 1), BAD);
        DUE.is("3 nothing ahead of bad i", x.set(5, 99, 1), NOTHING);
        x.count(0, 2, 0);
        x.show(5, 0);
        DUE.is("3 other ahead of bad i", x.set(5, 99, 1), OTHER);
        int refused = x.status(12) + x.status(13) + x.status(14);
        DUE.is("5 s 8", x.element(8, 0), 0);
        DUE.is("5 s -1", x.element(-1, 0), 0);
        DUE.is("5 count", x.element(5, 0), 0);
        DUE.is("5 i 40", x.element(7, 40), 0);
        DUE.is("5 i -1", x.element(7, -1), 0);
        DUE.is("5 nothing is refused", x.status(12) + x.status(13) + x.status(14), refused);
        DUE.is("59 shelves", x.status(7), 8);
    }

    // ---- 4
    private static void shelfCopies() {
        OneTwoOneTwo x = new OneTwoOneTwo();
        x.row(0, 1, 5);
        x.row(1, 1, 4);
        x.row(2, 2, 4);
        for (int i = 0; i < 5; i++) {
            x.set(0, i, i + 1);
        }
        DUE.is("4 copy", x.copy(0, 1, 2, 1, 3), 3);
        DUE.is("4 ahead", x.element(1, 0), 0);
        DUE.is("4 first", x.element(1, 1), 3);
        DUE.is("4 last", x.element(1, 3), 5);
        DUE.is("4 onto itself", x.copy(0, 0, 0, 1, 4), 4);
        DUE.is("4 as they were 1", x.element(0, 1), 1);
        DUE.is("4 as they were 4", x.element(0, 4), 4);
        DUE.is("4 back onto itself", x.copy(0, 0, 1, 0, 4), 4);
        DUE.is("4 as they were 3", x.element(0, 3), 4);
        DUE.is("4 none at the end", x.copy(0, 1, 5, 4, 0), 0);
        DUE.is("4 p 8", x.copy(8, 1, 0, 0, 0), BAD);
        DUE.is("4 q -1", x.copy(0, -1, 0, 0, 0), BAD);
        DUE.is("4 bad shelf ahead of nothing", x.copy(3, 8, 0, 0, 0), BAD);
        DUE.is("4 two sorts", x.copy(0, 2, 0, 0, 0), OTHER);
        DUE.is("4 two sorts ahead of bad n", x.copy(0, 2, 0, 0, -1), OTHER);
        DUE.is("4 nothing p", x.copy(3, 0, 0, 0, 0), NOTHING);
        DUE.is("4 nothing q", x.copy(0, 3, 0, 0, 0), NOTHING);
        DUE.is("4 nothing ahead of bad n", x.copy(0, 3, 0, 0, -1), NOTHING);
        x.count(0, 2, 0);
        x.show(4, 0);
        DUE.is("4 count p", x.copy(4, 0, 0, 0, 0), OTHER);
        DUE.is("4 count q", x.copy(0, 4, 0, 0, 0), OTHER);
        DUE.is("4 two counts", x.copy(4, 4, 0, 0, 0), OTHER);
        DUE.is("4 count and nothing", x.copy(4, 3, 0, 0, 0), OTHER);
        DUE.is("4 nothing and count", x.copy(3, 4, 0, 0, 0), OTHER);
        DUE.is("4 i -1", x.copy(0, 1, -1, 0, 1), BAD);
        DUE.is("4 j -1", x.copy(0, 1, 0, -1, 1), BAD);
        DUE.is("4 n -1", x.copy(0, 1, 0, 0, -1), BAD);
        DUE.is("4 too many for p", x.copy(0, 1, 3, 0, 3), BAD);
        DUE.is("4 too many for q", x.copy(0, 1, 0, 2, 3), BAD);
        DUE.is("4 far too many", x.copy(0, 1, 1, 1, Integer.MAX_VALUE), BAD);
        DUE.is("4 i far off", x.copy(0, 1, Integer.MAX_VALUE, 0, 1), BAD);
        DUE.is("4 i behind the end", x.copy(0, 1, 6, 0, 0), BAD);
        DUE.is("4 refused: as it was", x.element(1, 1), 3);
    }

    // ---- 6, 7
    private static void shelfCounts() {
        OneTwoOneTwo x = new OneTwoOneTwo();
        x.count(0, 2, 0);
        x.count(1, 2, 0);
        DUE.is("7 show", x.show(3, 1), 1);
        DUE.is("6 count", x.holds(3), 11);
        DUE.is("7 s 8", x.show(8, 1), BAD);
        DUE.is("7 s -1", x.show(-1, NONE), BAD);
        DUE.is("7 count 2", x.show(3, 2), BAD);
        DUE.is("7 count -2", x.show(3, -2), BAD);
        DUE.is("7 refused: as it was", x.holds(3), 11);
        DUE.is("7 over a count a row", x.row(3, 4, 1), 1);
        DUE.is("6 the row", x.holds(3), 4);
        DUE.is("7 over a row nothing", x.show(3, NONE), 1);
        DUE.is("6 nothing", x.holds(3), -1);
        DUE.is("59 no shelves", x.status(7), 0);
    }

    private static final int NONE = OneTwoOneTwo.NONE;

    // ---- 8
    private static void sayings() {
        OneTwoOneTwo x = new OneTwoOneTwo();
        int[] a = {0, 0, 0, 3, 0, 2};
        for (int kind = 0; kind <= 5; kind++) {
            x.count(kind, 3, a[kind]);
            x.show(kind, kind);
        }
        x.row(7, 0, 1);
        int[][] nobody = {
            {3, OTHER, OTHER, OTHER, OTHER, OTHER}, {3, NONE, OTHER, OTHER, OTHER, OTHER},
            {3, OTHER, 0, OTHER, OTHER, OTHER}, {3, OTHER, OTHER, 0, OTHER, OTHER},
            {3, NONE, OTHER, OTHER, NONE, OTHER}, {3, OTHER, OTHER, 0, OTHER, 0}};
        saysAll(x, "nobody", nobody);
        for (int i = 0; i < 3; i++) {
            x.child(1, 0);
        }
        int[][] three = {
            {3, OTHER, OTHER, OTHER, OTHER, OTHER}, {3, 2, OTHER, OTHER, OTHER, OTHER},
            {3, OTHER, 2, OTHER, OTHER, OTHER}, {3, OTHER, OTHER, 0, OTHER, OTHER},
            {3, 0, OTHER, OTHER, 2, OTHER}, {3, OTHER, OTHER, 1, OTHER, 1}};
        saysAll(x, "three", three);
        x.child(1, 0);
        DUE.is("8 slip at 3 of four", x.says(3, 3), 1);
        DUE.is("8 jump of four", x.says(2, 2), 2);
        DUE.is("8 back of four", x.says(1, 1), 0);
        OneTwoOneTwo one = yardOf(1, 0);
        one.count(4, 5, 0);
        one.show(0, 0);
        DUE.is("8 turned of one", one.says(0, 4), 4);
        DUE.is("8 turned of one, taken for back", one.says(0, 1), 4);
        one.count(1, 5, 0);
        one.show(0, 1);
        DUE.is("8 back of one", one.says(0, 1), 0);
        DUE.is("8 kind 6", x.says(0, 6), BAD);
        DUE.is("8 kind -1", x.says(0, -1), BAD);
        DUE.is("8 s 8", x.says(8, 0), BAD);
        DUE.is("8 nothing", x.says(6, 0), NOTHING);
        DUE.is("8 bad kind ahead of nothing", x.says(6, 6), BAD);
        DUE.is("8 a row", x.says(7, 0), OTHER);
        DUE.is("8 bad kind ahead of a row", x.says(7, 6), BAD);
    }

    private static void saysAll(OneTwoOneTwo x, String name, int[][] want) {
        for (int s = 0; s < 6; s++) {
            for (int kind = 0; kind <= 5; kind++) {
                DUE.is("8 " + name + " says(" + s + "," + kind + ")", x.says(s, kind), want[s][kind]);
            }
        }
    }

    // ---- 9
    private static void children() {
        OneTwoOneTwo x = new OneTwoOneTwo();
        DUE.is("9 strong 0", x.child(0, 0), BAD);
        DUE.is("9 strong 100", x.child(100, 0), BAD);
        DUE.is("9 step -1", x.child(1, -1), BAD);
        DUE.is("9 step 10", x.child(1, 10), BAD);
        for (int i = 0; i < 14; i++) {
            DUE.is("9 child", x.child(i == 0 ? 99 : 1, i == 1 ? 9 : 0), i);
            DUE.is("9 at the end", x.at(i), i);
        }
        DUE.is("9 full", x.child(1, 0), FULL);
        DUE.is("9 bad ahead of full", x.child(0, 0), BAD);
        DUE.is("59 children", x.status(0), 14);
        DUE.is("59 strong", x.status(4), 112);
    }

    // ---- 10
    private static void counts() {
        OneTwoOneTwo x = new OneTwoOneTwo();
        int[][] bad = {{-1, 2, 0}, {6, 2, 0}, {0, 1, 0}, {0, 6, 0}, {0, 2, -1}, {0, 2, 14}};
        for (int[] b : bad) {
            DUE.is("10 bad", x.count(b[0], b[1], b[2]), BAD);
        }
        for (int i = 0; i < 6; i++) {
            DUE.is("10 count", x.count(i, i == 5 ? 5 : 2, i == 5 ? 13 : 0), i);
        }
        DUE.is("10 full", x.count(0, 2, 0), FULL);
        for (int[] b : bad) {
            DUE.is("10 bad ahead of full", x.count(b[0], b[1], b[2]), BAD);
        }
        DUE.is("17 kind", x.countOf(5, 0), 5);
        DUE.is("17 n", x.countOf(5, 1), 5);
        DUE.is("17 a", x.countOf(5, 2), 13);
        DUE.is("17 what 3", x.countOf(5, 3), BAD);
        DUE.is("17 what -1", x.countOf(5, -1), BAD);
        DUE.is("17 count 6", x.countOf(6, 0), BAD);
        DUE.is("17 count -1", x.countOf(-1, 0), BAD);
        DUE.is("59 counts", x.status(1), 6);
    }

    // ---- 11, 12, 18
    private static void wishes() {
        OneTwoOneTwo x = yardOf(3, 0);
        DUE.is("11 child 3", x.wish(3, 0, true, 1), BAD);
        DUE.is("11 child -1", x.wish(-1, 0, true, 1), BAD);
        DUE.is("11 other 3", x.wish(0, 3, true, 1), BAD);
        DUE.is("11 same", x.wish(1, 1, true, 1), BAD);
        DUE.is("11 worth 0", x.wish(0, 1, true, 0), BAD);
        DUE.is("11 worth 100", x.wish(0, 1, true, 100), BAD);
        DUE.is("11 wish", x.wish(2, 0, true, 99), 1);
        DUE.is("11 parted", x.wish(1, 2, false, 1), 2);
        int[][] want = {{2, 0, 1, 99}, {1, 2, 0, 1}};
        for (int i = 0; i < 2; i++) {
            for (int what = 0; what < 4; what++) {
                DUE.is("18 wish " + i, x.wishOf(i, what), want[i][what]);
            }
        }
        DUE.is("18 i 2", x.wishOf(2, 0), BAD);
        DUE.is("18 i -1", x.wishOf(-1, 0), BAD);
        DUE.is("18 what 4", x.wishOf(0, 4), BAD);
        DUE.is("18 what -1", x.wishOf(0, -1), BAD);
        DUE.is("59 worths", x.status(3), 100);
        for (int i = 2; i < 20; i++) {
            DUE.is("11 wish", x.wish(0, 1, true, 1), i + 1);
        }
        DUE.is("11 full", x.wish(0, 1, true, 1), FULL);
        DUE.is("11 bad ahead of full", x.wish(0, 0, true, 1), BAD);
        DUE.is("12 content", x.content(), 20);
        DUE.is("12 again", x.content(), 0);
        DUE.is("59 wishes", x.status(2), 0);
        DUE.is("59 worths of none", x.status(3), 0);
        DUE.is("18 none", x.wishOf(0, 0), BAD);
        DUE.is("11 anew", x.wish(0, 1, false, 7), 1);
        DUE.is("18 anew", x.wishOf(0, 2), 0);
    }

    // ---- 13, 14
    private static void tape() {
        OneTwoOneTwo x = new OneTwoOneTwo();
        DUE.is("13 -1", x.feed(-1), BAD);
        DUE.is("13 256", x.feed(256), BAD);
        for (int i = 1; i <= 250; i++) {
            DUE.is("13 feed", x.feed(i == 1 ? 255 : 0), i);
        }
        DUE.is("13 full", x.feed(0), FULL);
        DUE.is("13 bad ahead of full", x.feed(256), BAD);
        DUE.is("59 tape", x.status(5), 250);
        DUE.is("14 wipe", x.wipe(), 250);
        DUE.is("14 again", x.wipe(), 0);
        DUE.is("59 tape wiped", x.status(5), 0);
        StringBuilder most = new StringBuilder("child 1 0");
        while (most.length() < 250) {
            most.append(' ');
        }
        reads(x, most.toString(), 1);
    }

    // ---- 15
    private static void yardRead() {
        OneTwoOneTwo x = new OneTwoOneTwo();
        reads(x, "child 30 2", 1);
        DUE.is("15 strong", x.childOf(0, 0), 30);
        DUE.is("15 step", x.childOf(0, 1), 2);
        DUE.is("15 the tape is empty then", x.status(5), 0);
        reads(x, "  child05 09;child 1 1 ; child 99 0  ", 3);
        DUE.is("15 leading 0", x.childOf(1, 0), 5);
        DUE.is("15 leading 0 of step", x.childOf(1, 1), 9);
        reads(x, "count 5 5 13;count 0 2 00", 2);
        DUE.is("15 kind", x.countOf(0, 0), 5);
        DUE.is("15 a", x.countOf(0, 2), 13);
        reads(x, "with 3 0 99;without 1 2 1", 2);
        DUE.is("15 with", x.wishOf(0, 2), 1);
        DUE.is("15 with first", x.wishOf(0, 0), 3);
        DUE.is("15 without", x.wishOf(1, 2), 0);
        DUE.is("15 without worth", x.wishOf(1, 3), 1);
        stands(x, "15 ahead", 0, 1, 2, 3);
        reads(x, "swap 0 3", 1);
        stands(x, "15 swap whatever the step", 3, 1, 2, 0);
        reads(x, "move 3 2;swap 1 0", 2);
        stands(x, "15 move", 0, 2, 3, 1);
        reads(x, "move 1 3", 1);
        stands(x, "15 move to its own place", 0, 2, 3, 1);
        reads(x, "child 7 7;move 4 0;with 4 0 5", 3);
        stands(x, "15 with one of the same tape", 4, 0, 2, 3, 1);
        DUE.is("15 its wish", x.wishOf(2, 0), 4);
        DUE.is("15 none was refused", x.status(12), 0);
    }

    private static void yardFaults() {
        OneTwoOneTwo x = yardOf(2, 0);
        reads(x, "", -20);
        reads(x, "   ", -23);
        reads(x, ";", -20);
        reads(x, "child 1 0;", -30);
        reads(x, "child 1 0; ", -31);
        reads(x, "child 1 0;;child 1 0", -30);
        reads(x, ";child 1 0", -20);
        reads(x, "child 1", -27);
        reads(x, "child", -25);
        reads(x, "child ;", -26);
        reads(x, "child 0 0", -26);
        reads(x, "child 100 0", -26);
        reads(x, "child 001 0", -26);
        reads(x, "child 1 10", -28);
        reads(x, "child 1 000", -28);
        reads(x, "child 1 0 0", -30);
        reads(x, "child 1 0 child 1 0", -30);
        reads(x, "childs 1 0", -20);
        reads(x, "chil 1 0", -20);
        reads(x, "Child 1 0", -20);
        reads(x, "child -1 0", -26);
        reads(x, "child 1\t0", -27);
        reads(x, "child 1 0" + (char) 0, -29);
        reads(x, "child 1 0" + (char) 255, -29);
        reads(x, "7", -20);
        reads(x, "count 6 2 0", -26);
        reads(x, "count 0 1 0", -28);
        reads(x, "count 0 6 0", -28);
        reads(x, "count 0 2 14", -30);
        reads(x, "count 0 2", -29);
        reads(x, "with 2 0 1", -25);
        reads(x, "with 0 2 1", -27);
        reads(x, "with 0 0 1", -27);
        reads(x, "with 0 1 0", -29);
        reads(x, "with 0 1", -28);
        reads(x, "with out 0 1 1", -25);
        reads(x, "without 1 1 1", -30);
        reads(x, "swap 0 0", -27);
        reads(x, "swap 2 0", -25);
        reads(x, "swap 0 2", -27);
        reads(x, "move 2 0", -25);
        reads(x, "move 0 2", -27);
        reads(x, "with 2 0 1;child 1 1", -25);
        stands(x, "15 nothing came of it", 0, 1);
        DUE.is("15 no wishes came", x.status(2), 0);
        DUE.is("15 no counts came", x.status(1), 0);
        DUE.is("15 each is refused as bad", x.status(12), 43);
        reads(x, "child 9 9;count 0 2 0;with 0 2 5;swap 0 2;move 1 0;x", -20 - 51);
        stands(x, "15 all or nothing", 0, 1);
        DUE.is("15 nothing of it, worths", x.status(3), 0);
        DUE.is("15 the tape is empty then", x.status(5), 0);
        reads(x, "swap 0 1", 1);
        stands(x, "15 goes on", 1, 0);
    }

    private static void yardRoom() {
        OneTwoOneTwo x = yardOf(13, 0);
        reads(x, "child 1 0;child 0 0", -30);
        DUE.is("15 no 14th came", x.status(0), 13);
        reads(x, "child 1 0", 1);
        reads(x, "count 0 2 0; child 1 0", -33);
        reads(x, "count 0 2 0;count 0 2 0;count 0 2 0;count 0 2 0;count 0 2 0;count 0 2 0", 6);
        reads(x, "count 9", -20);
        for (int i = 0; i < 19; i++) {
            x.wish(0, 1, true, 1);
        }
        reads(x, "with 0 1 1;without x", -31);
        reads(x, "without 0 1 1", 1);
        reads(x, "with 0 1 1", -20);
        reads(x, " without 0 1 1", -21);
        DUE.is("59 full of wishes", x.status(2), 20);
        DUE.is("59 the faults are bad, not full", x.status(16), 0);
    }

    // ---- 16, 19
    private static void whatThereIs() {
        OneTwoOneTwo x = new OneTwoOneTwo();
        DUE.is("16 nobody", x.childOf(0, 0), BAD);
        DUE.is("19 nobody", x.at(0), BAD);
        x.child(30, 2);
        x.child(40, 3);
        x.child(50, 4);
        x.wish(0, 1, true, 1);
        x.wish(2, 0, false, 1);
        x.move(0, 2);
        int[][] want = {{30, 2, 2, 2}, {40, 3, 0, 1}, {50, 4, 1, 1}};
        for (int c = 0; c < 3; c++) {
            for (int what = 0; what < 4; what++) {
                DUE.is("16 childOf(" + c + "," + what + ")", x.childOf(c, what), want[c][what]);
            }
        }
        DUE.is("16 child 3", x.childOf(3, 0), BAD);
        DUE.is("16 child -1", x.childOf(-1, 0), BAD);
        DUE.is("16 what 4", x.childOf(0, 4), BAD);
        DUE.is("16 what -1", x.childOf(0, -1), BAD);
        DUE.is("19 at", x.at(2), 0);
        DUE.is("19 at 3", x.at(3), BAD);
        DUE.is("19 at -1", x.at(-1), BAD);
    }

    // ---- 20 to 26, 32, 33
    private static void teams() {
        OneTwoOneTwo x = new OneTwoOneTwo();
        int[] strong = {30, 50, 20, 70, 40, 60, 35};
        for (int s : strong) {
            x.child(s, 2);
        }
        x.count(0, 3, 0);
        x.count(1, 3, 0);
        x.count(0, 5, 0);
        x.wish(0, 3, true, 10);
        x.wish(0, 1, true, 20);
        x.wish(1, 2, false, 5);
        x.wish(2, 5, false, 20);
        DUE.is("20 team", x.team(0, 5), 2);
        DUE.is("20 count 3", x.team(3, 0), BAD);
        DUE.is("20 count -1", x.team(-1, 0), BAD);
        DUE.is("20 child 7", x.team(0, 7), BAD);
        DUE.is("20 child -1", x.team(0, -1), BAD);
        DUE.is("21 members", x.members(0, 0), 1 | 8 | 64);
        DUE.is("21 members 2", x.members(0, 2), 4 | 32);
        DUE.is("21 team 3", x.members(0, 3), BAD);
        DUE.is("21 team -1", x.members(0, -1), BAD);
        DUE.is("21 count 3", x.members(3, 0), BAD);
        DUE.is("22 strength", x.strength(0, 0), 135);
        DUE.is("22 strength 1", x.strength(0, 1), 90);
        DUE.is("22 strength 2", x.strength(0, 2), 80);
        DUE.is("22 team 3", x.strength(0, 3), BAD);
        DUE.is("22 team -1", x.strength(0, -1), BAD);
        DUE.is("22 count -1", x.strength(-1, 0), BAD);
        DUE.is("23 heaviest", x.heaviest(0), 0);
        DUE.is("23 heaviest by 5", x.heaviest(2), 0);
        DUE.is("23 count 3", x.heaviest(3), BAD);
        DUE.is("32 value", x.value(0), 15);
        DUE.is("32 value by 5", x.value(2), 25);
        DUE.is("32 count 3", x.value(3), BAD);
        DUE.is("32 count -1", x.value(-1), BAD);
        DUE.is("33 met", x.met(0, 0), 1);
        DUE.is("33 not met", x.met(0, 1), 0);
        DUE.is("33 parted met", x.met(0, 2), 1);
        DUE.is("33 parted not met", x.met(0, 3), 0);
        DUE.is("33 wish 4", x.met(0, 4), BAD);
        DUE.is("33 wish -1", x.met(0, -1), BAD);
        DUE.is("33 count 3", x.met(3, 0), BAD);
        DUE.is("26 unmet, the first of two", x.unmet(0), 1);
        DUE.is("26 count 3", x.unmet(3), BAD);
        DUE.is("25 unlike", x.unlike(0, 1), 4);
        DUE.is("25 itself", x.unlike(1, 1), 0);
        DUE.is("25 count 3", x.unlike(0, 3), BAD);
        DUE.is("25 count -1", x.unlike(-1, 0), BAD);
        x.content();
        DUE.is("26 none", x.unmet(0), -1);
        x.wish(0, 1, true, 1);
        DUE.is("26 the first of all", x.unmet(0), 0);
        x.wish(0, 2, true, 2);
        x.wish(0, 3, true, 3);
        DUE.is("26 not what is met", x.unmet(0), 1);
        x.child(1, 0);
        DUE.is("25 all but two", x.unlike(0, 1), 6);
        turnedAbout();
        heaviestOfSeveral();
    }

    // ---- 24
    private static void turnedAbout() {
        OneTwoOneTwo x = yardOf(4, 0);
        x.count(3, 2, 1);
        x.wish(0, 1, true, 5);
        x.wish(2, 3, true, 9);
        DUE.is("24 as it is", x.value(0), 5);
        DUE.is("24 turned", x.turned(0), 9);
        DUE.is("24 nothing is changed", x.value(0), 5);
        DUE.is("24 count 1", x.turned(1), BAD);
        DUE.is("24 count -1", x.turned(-1), BAD);
        stands(x, "24", 0, 1, 2, 3);
    }

    // ---- 23
    private static void heaviestOfSeveral() {
        OneTwoOneTwo x = new OneTwoOneTwo();
        x.count(0, 3, 0);
        DUE.is("23 nobody", x.heaviest(0), 0);
        x.child(1, 0);
        x.child(9, 0);
        x.child(9, 0);
        DUE.is("23 of several the first", x.heaviest(0), 1);
    }

    // ---- 20, 21 by every kind
    private static void teamsByEveryKind() {
        OneTwoOneTwo x = yardOf(7, 0);
        for (int kind = 0; kind <= 5; kind++) {
            x.count(kind, 3, 3);
        }
        teamsAre(x, 0, 0, 1, 2, 0, 1, 2, 0);
        teamsAre(x, 1, 0, 2, 1, 0, 2, 1, 0);
        teamsAre(x, 2, 0, 1, 1, 2, 2, 0, 0);
        teamsAre(x, 3, 0, 1, 2, 2, 0, 1, 2);
        teamsAre(x, 4, 2, 0, 1, 2, 0, 1, 2);
        teamsAre(x, 5, 1, 2, 0, 0, 1, 2, 0);
        x.child(1, 0);
        teamsAre(x, 1, 1, 0, 2, 1, 0, 2, 1, 0);
        teamsAre(x, 2, 0, 1, 1, 2, 2, 0, 0, 1);
        x.move(7, 0);
        DUE.is("20 by place, not by number", x.team(0, 0), 1);
        DUE.is("20 by place", x.team(0, 7), 0);
        DUE.is("21 by place", x.members(0, 0), 1 << 7 | 1 << 2 | 1 << 5);
        OneTwoOneTwo y = yardOf(3, 0);
        y.count(3, 2, 0);
        y.count(5, 2, 0);
        y.count(3, 2, 13);
        teamsAre(y, 0, 0, 1, 0);
        teamsAre(y, 1, 1, 0, 1);
        teamsAre(y, 2, 0, 1, 0);
    }

    private static void teamsAre(OneTwoOneTwo x, int count, int... want) {
        for (int c = 0; c < want.length; c++) {
            DUE.is("20 team(" + count + "," + c + ")", x.team(count, c), want[c]);
        }
    }

    // ---- 27, 28, 29
    private static void friends() {
        OneTwoOneTwo x = yardOf(7, 0);
        DUE.is("28 all alone", x.groups(), 7);
        x.wish(5, 6, true, 1);
        x.wish(4, 5, true, 1);
        x.wish(3, 4, true, 1);
        x.wish(0, 2, true, 1);
        x.wish(0, 1, false, 1);
        DUE.is("27 a chain told from its end", x.friendsOf(3), 8 | 16 | 32 | 64);
        DUE.is("27 and back", x.friendsOf(6), 8 | 16 | 32 | 64);
        DUE.is("27 two", x.friendsOf(2), 5);
        DUE.is("27 alone", x.friendsOf(1), 2);
        DUE.is("27 child 7", x.friendsOf(7), BAD);
        DUE.is("27 child -1", x.friendsOf(-1), BAD);
        DUE.is("28 groups", x.groups(), 3);
        DUE.is("29 none", x.conflict(), -1);
        x.wish(2, 6, false, 1);
        x.wish(6, 3, false, 1);
        x.wish(0, 2, false, 1);
        DUE.is("29 conflict, the first", x.conflict(), 6);
        x.content();
        x.wish(4, 3, false, 1);
        x.wish(3, 4, true, 1);
        DUE.is("29 the first of all", x.conflict(), 0);
        x.content();
        DUE.is("28 groups again", x.groups(), 7);
    }

    // ---- 30, 36
    private static void changesOfTwo() {
        OneTwoOneTwo x = yardOf(4, 0);
        x.count(0, 2, 0);
        x.wish(0, 1, true, 10);
        x.wish(2, 3, true, 10);
        x.wish(0, 2, false, 1);
        DUE.is("30 0 by 0", x.changes(0, 0), 0);
        DUE.is("30 1", x.changes(0, 1), 1);
        DUE.is("30 21", x.changes(0, 21), 1);
        DUE.is("30 22", x.changes(0, 22), -1);
        DUE.is("30 v -1", x.changes(0, -1), BAD);
        DUE.is("30 v 9999", x.changes(0, 9999), -1);
        DUE.is("30 v 10000", x.changes(0, 10000), BAD);
        DUE.is("30 count 1", x.changes(1, 0), BAD);
        DUE.is("36 no step", x.change(0), -1);
        stands(x, "30 nothing is changed", 0, 1, 2, 3);
        OneTwoOneTwo y = yardOf(6, 0);
        y.count(0, 3, 0);
        y.wish(0, 1, true, 5);
        y.wish(2, 3, true, 5);
        y.wish(4, 5, true, 5);
        DUE.is("30 by one", y.changes(0, 5), 1);
        DUE.is("30 by two", y.changes(0, 15), 2);
        DUE.is("30 none greater", y.changes(0, 16), -1);
        OneTwoOneTwo z = new OneTwoOneTwo();
        int[] steps = {2, 1, 2, 3};
        for (int s : steps) {
            z.child(1, s);
        }
        z.count(0, 2, 0);
        z.wish(0, 1, true, 10);
        z.wish(2, 3, true, 10);
        DUE.is("36 of several the first", z.change(0), 102);
        z.wish(1, 3, true, 50);
        DUE.is("36 none is greater than now", z.change(0), -1);
        DUE.is("36 count 1", z.change(1), BAD);
        DUE.is("36 count -1", z.change(-1), BAD);
        z.content();
        z.wish(3, 2, true, 1);
        z.move(0, 3);
        DUE.is("36 by places", z.change(0), 3);
    }

    // ---- 31, 37
    private static void placesAndFar() {
        OneTwoOneTwo x = yardOf(5, 0);
        DUE.is("31 no counts", x.place(3), 0);
        x.count(0, 2, 0);
        x.wish(4, 1, true, 9);
        DUE.is("31 the least of several", x.place(4), 0);
        x.wish(4, 0, true, 3);
        DUE.is("31 place", x.place(4), 0);
        x.count(0, 5, 0);
        x.wish(4, 1, false, 40);
        DUE.is("31 by all counts together", x.place(4), 2);
        DUE.is("31 another", x.place(2), 2);
        stands(x, "31 it stays where it is", 0, 1, 2, 3, 4);
        DUE.is("31 child 5", x.place(5), BAD);
        DUE.is("31 child -1", x.place(-1), BAD);
        stands(x, "31 nothing is changed", 0, 1, 2, 3, 4);
        OneTwoOneTwo y = yardOf(8, 0);
        y.count(0, 4, 0);
        DUE.is("37 they are", y.far(0, 0, 4), 0);
        DUE.is("37 one place", y.far(0, 0, 5), 1);
        DUE.is("37 back to it", y.far(0, 0, 3), 1);
        DUE.is("37 to the first place", y.far(0, 1, 4), 1);
        DUE.is("37 neighbours", y.far(0, 0, 1), 3);
        DUE.is("37 either one", y.far(0, 1, 0), 3);
        DUE.is("37 two places", y.far(0, 1, 7), 2);
        DUE.is("37 count 1", y.far(1, 0, 1), BAD);
        DUE.is("37 same", y.far(0, 1, 1), BAD);
        DUE.is("37 child 8", y.far(0, 8, 1), BAD);
        DUE.is("37 other -1", y.far(0, 1, -1), BAD);
        stands(y, "37 nothing is changed", 0, 1, 2, 3, 4, 5, 6, 7);
        OneTwoOneTwo z = yardOf(3, 0);
        z.count(0, 3, 0);
        z.count(3, 3, 1);
        DUE.is("37 it can't be", z.far(0, 0, 2), -1);
        DUE.is("37 first two say one", z.far(1, 0, 1), 0);
        DUE.is("37 only the last one has to move", z.far(1, 0, 2), 1);
        DUE.is("37 the other way about", z.far(1, 2, 0), 1);
    }

    // ---- 34, 35
    private static void bestAndEven() {
        OneTwoOneTwo x = yardOf(4, 0);
        DUE.is("34 no counts", x.best(0), STUCK);
        DUE.is("34 bad ahead of stuck", x.best(3), BAD);
        DUE.is("34 what -1", x.best(-1), BAD);
        x.count(0, 3, 0);
        x.count(0, 2, 0);
        x.count(1, 2, 0);
        x.count(0, 5, 0);
        x.wish(0, 2, true, 5);
        x.wish(0, 1, false, 1);
        DUE.is("34 best", x.best(0), 1);
        DUE.is("34 worst", x.best(1), 0);
        DUE.is("34 evenest", x.best(2), 1);
        DUE.is("35 even", x.even(0), 3);
        DUE.is("35 even by 2", x.even(1), 2);
        DUE.is("35 also empty teams", x.even(3), 4);
        DUE.is("35 count 4", x.even(4), BAD);
        DUE.is("35 count -1", x.even(-1), BAD);
    }

    // ---- 38
    private static void most() {
        OneTwoOneTwo x = yardOf(8, 0);
        x.count(0, 5, 0);
        x.count(2, 2, 0);
        for (int i = 0; i < 7; i++) {
            x.wish(i, i + 1, true, 10 + i);
        }
        DUE.is("38 three teams of two", x.most(0), 16 + 14 + 12);
        DUE.is("38 two teams of four", x.most(1), 91 - 13);
        x.wish(0, 7, false, 99);
        DUE.is("38 parted too", x.most(1), 91 - 13 + 99);
        DUE.is("38 count 2", x.most(2), BAD);
        stands(x, "38 nothing is changed", 0, 1, 2, 3, 4, 5, 6, 7);
        x.child(1, 0);
        DUE.is("38 nine", x.most(0), STUCK);
        DUE.is("38 bad ahead of stuck", x.most(2), BAD);
        DUE.is("38 count -1", x.most(-1), BAD);
    }

    // ---- 39, 40, 41
    private static void alwaysOftenSafe() {
        OneTwoOneTwo x = yardOf(6, 0);
        DUE.is("39 no counts", x.always(2), 63);
        DUE.is("40 no counts", x.often(0, 1), 0);
        DUE.is("41 no counts", x.safe(0, 5), 0);
        x.count(0, 2, 0);
        DUE.is("39 by one", x.always(1), 2 | 8 | 32);
        x.count(0, 4, 0);
        DUE.is("39 by both", x.always(1), 2 | 32);
        DUE.is("39 itself alone", x.always(3), 8);
        DUE.is("40 by one", x.often(0, 2), 1);
        DUE.is("40 by two", x.often(4, 0), 2);
        DUE.is("40 by none", x.often(0, 1), 0);
        DUE.is("41 safe", x.safe(0, 1), 4);
        DUE.is("41 the second one is moved", x.safe(1, 0), 4);
        DUE.is("41 the least", x.safe(4, 3), 0);
        DUE.is("39 child 6", x.always(6), BAD);
        DUE.is("39 child -1", x.always(-1), BAD);
        DUE.is("40 same", x.often(1, 1), BAD);
        DUE.is("40 child 6", x.often(6, 1), BAD);
        DUE.is("40 other -1", x.often(1, -1), BAD);
        DUE.is("41 same", x.safe(1, 1), BAD);
        DUE.is("41 child -1", x.safe(-1, 1), BAD);
        DUE.is("41 other 6", x.safe(1, 6), BAD);
        stands(x, "41 nothing is changed", 0, 1, 2, 3, 4, 5);
    }

    // ---- 42, 43, 44
    private static void countingOut() {
        OneTwoOneTwo x = yardOf(5, 0);
        int[] byTwo = {1, 3, 0, 4, 2};
        int[] bySeven = {1, 4, 0, 2, 3};
        for (int i = 0; i < 5; i++) {
            DUE.is("42 by 2", x.out(2, i), byTwo[i]);
            DUE.is("43 by 2", x.outAt(2, byTwo[i]), i);
            DUE.is("42 by 7", x.out(7, i), bySeven[i]);
            DUE.is("42 by 1", x.out(1, i), i);
        }
        DUE.is("43 by 3, asked first", yardOf(5, 0).outAt(3, 4), 2);
        DUE.is("44 the last by 1", x.stays(4), 1);
        DUE.is("44 by 2", x.stays(2), 2);
        DUE.is("44 by 3", x.stays(3), 3);
        DUE.is("44 by 4", x.stays(0), 4);
        DUE.is("44 by 5", x.stays(1), 5);
        DUE.is("42 k 0", x.out(0, 0), BAD);
        DUE.is("42 k 21", x.out(21, 0), BAD);
        DUE.is("42 i 5", x.out(20, 5), BAD);
        DUE.is("42 i -1", x.out(1, -1), BAD);
        DUE.is("43 k 0", x.outAt(0, 0), BAD);
        DUE.is("43 k 21", x.outAt(21, 0), BAD);
        DUE.is("43 child 5", x.outAt(20, 5), BAD);
        DUE.is("43 child -1", x.outAt(1, -1), BAD);
        DUE.is("44 child 5", x.stays(5), BAD);
        DUE.is("44 child -1", x.stays(-1), BAD);
        x.turn();
        DUE.is("42 by places", x.out(1, 0), 4);
        DUE.is("44 by places", x.stays(0), 1);
        DUE.is("42 nobody", new OneTwoOneTwo().out(1, 0), BAD);
        OneTwoOneTwo y = yardOf(14, 0);
        DUE.is("44 never", y.stays(2), -1);
        DUE.is("44 by the greatest k", y.stays(4), 20);
        DUE.is("44 the least of several", y.stays(12), 2);
    }

    // ---- 45, 46, 47
    private static void mornings() {
        OneTwoOneTwo x = yardOf(4, 0);
        DUE.is("47 bad ahead of stuck", x.miscounted(8), BAD);
        DUE.is("47 nothing ahead of stuck", x.miscounted(0), NOTHING);
        x.row(0, 2, 3);
        DUE.is("47 fewer elements ahead of stuck", x.miscounted(0), BAD);
        x.row(0, 2, 5);
        DUE.is("47 no counts", x.miscounted(0), STUCK);
        DUE.is("45 no counts", x.fits(0), 0);
        x.count(0, 2, 0);
        x.count(1, 2, 0);
        x.count(2, 2, 0);
        x.count(4, 2, 0);
        tell(x, 0, 0, 1, 0, 1);
        DUE.is("45 fits", x.fits(0), 9);
        DUE.is("47 none", x.miscounted(0), 0);
        DUE.is("46 of one team", x.moved(0, 0), 2);
        DUE.is("46 by back", x.moved(1, 0), -1);
        tell(x, 0, 1, 0, 1, 0);
        DUE.is("47 none by another", x.miscounted(0), 0);
        tell(x, 0, 0, 0, 1, 1);
        DUE.is("47 none by jump", x.miscounted(0), 0);
        tell(x, 0, 1, 1, 0, 0);
        DUE.is("46 moved", x.moved(0, 0), 3);
        DUE.is("45 none", x.fits(0), 0);
        DUE.is("47 two", x.miscounted(0), 2);
        tell(x, 0, 0, 1, 0, 7);
        DUE.is("47 one", x.miscounted(0), 1);
        x.row(1, 3, 4);
        tell(x, 1, 1L << 32, 1, 0, 1);
        DUE.is("45 longs are not cut", x.fits(1), 0);
        x.row(1, 4, 4);
        tell(x, 1, 0, 5, 0, 5);
        DUE.is("45 booleans are 1 and 0", x.fits(1), 9);
        x.row(2, 0, 3);
        x.show(3, 0);
        DUE.is("45 fewer", x.fits(2), BAD);
        DUE.is("45 s 8", x.fits(8), BAD);
        DUE.is("45 other", x.fits(3), OTHER);
        DUE.is("45 nothing", x.fits(4), NOTHING);
        DUE.is("46 fewer", x.moved(0, 2), BAD);
        DUE.is("46 bad count ahead of other", x.moved(4, 3), BAD);
        DUE.is("46 bad count ahead of nothing", x.moved(-1, 4), BAD);
        DUE.is("46 s -1", x.moved(0, -1), BAD);
        DUE.is("46 other", x.moved(0, 3), OTHER);
        DUE.is("46 nothing", x.moved(0, 4), NOTHING);
        DUE.is("47 fewer", x.miscounted(2), BAD);
        DUE.is("47 s -1", x.miscounted(-1), BAD);
        DUE.is("47 other", x.miscounted(3), OTHER);
        DUE.is("47 nothing", x.miscounted(4), NOTHING);
        stands(x, "46 nothing is changed", 0, 1, 2, 3);
        OneTwoOneTwo y = new OneTwoOneTwo();
        y.row(0, 0, 0);
        y.count(0, 2, 0);
        y.count(3, 2, 0);
        DUE.is("45 nobody fits all", y.fits(0), 3);
        DUE.is("46 nobody", y.moved(0, 0), -1);
        DUE.is("47 nobody", y.miscounted(0), 0);
    }

    private static void tell(OneTwoOneTwo x, int s, long... told) {
        for (int i = 0; i < told.length; i++) {
            x.set(s, i, told[i]);
        }
    }

    // ---- 48, 49, 50
    private static void toldChanges() {
        OneTwoOneTwo x = new OneTwoOneTwo();
        int[] steps = {1, 3, 1, 3};
        for (int s : steps) {
            x.child(1, s);
        }
        x.count(0, 2, 0);
        x.wish(0, 1, true, 7);
        x.wish(1, 3, true, 2);
        x.row(0, 3, 6);
        tell(x, 0, 1, 301, 201, 103, 102, 0);
        DUE.is("48 none told", x.judge(0, 0), -1);
        DUE.is("48 first three", x.judge(0, 3), -1);
        DUE.is("48 four", x.judge(0, 4), -1);
        DUE.is("48 too far then", x.judge(0, 5), 4);
        DUE.is("48 the first wrong", x.judge(0, 6), 4);
        DUE.is("49 behind none", x.behind(0, 0, 0), 2);
        DUE.is("49 behind one", x.behind(0, 1, 0), 0);
        DUE.is("49 behind two", x.behind(0, 2, 0), 7);
        DUE.is("49 behind three", x.behind(0, 3, 0), 2);
        DUE.is("49 wrong", x.behind(0, 5, 0), STUCK);
        DUE.is("50 wrong", x.done(0, 5), STUCK);
        stands(x, "50 nothing came of it", 0, 1, 2, 3);
        DUE.is("50 done", x.done(0, 3), 3);
        stands(x, "50 in truth", 3, 0, 1, 2);
        noTwo(x);
        x.row(1, 0, 2);
        x.show(2, 0);
        DUE.is("48 fewer", x.judge(1, 3), BAD);
        DUE.is("48 n 41", x.judge(0, 41), BAD);
        DUE.is("48 n -1", x.judge(0, -1), BAD);
        DUE.is("48 s 8", x.judge(8, 0), BAD);
        DUE.is("48 bad n ahead of other", x.judge(2, 41), BAD);
        DUE.is("48 other", x.judge(2, 0), OTHER);
        DUE.is("48 nothing", x.judge(3, 0), NOTHING);
        DUE.is("49 fewer", x.behind(1, 3, 0), BAD);
        DUE.is("49 bad count ahead of other", x.behind(2, 0, 1), BAD);
        DUE.is("49 bad count ahead of nothing", x.behind(3, 0, -1), BAD);
        DUE.is("49 other", x.behind(2, 40, 0), OTHER);
        DUE.is("49 nothing", x.behind(3, 40, 0), NOTHING);
        DUE.is("50 fewer", x.done(1, 3), BAD);
        DUE.is("50 n 41", x.done(2, 41), BAD);
        DUE.is("50 s -1", x.done(-1, 0), BAD);
        DUE.is("50 other", x.done(2, 40), OTHER);
        DUE.is("50 nothing", x.done(3, 40), NOTHING);
        DUE.is("50 none", x.done(0, 0), 0);
    }

    private static void noTwo(OneTwoOneTwo x) {
        long[] wrong = {0, 101, 4, 400, -1, -100, 1300, 99, 10000, Long.MAX_VALUE, Long.MIN_VALUE,
            (1L << 32) + 103};
        for (long w : wrong) {
            x.set(0, 0, w);
            DUE.is("48 no two: " + w, x.judge(0, 1), 0);
        }
    }

    // ---- 51, 52, 53
    private static void inTruth() {
        OneTwoOneTwo x = new OneTwoOneTwo();
        DUE.is("53 nobody", x.turn(), -1);
        DUE.is("51 nobody", x.swap(0, 0), BAD);
        DUE.is("52 nobody", x.move(0, 0), BAD);
        int[] steps = {2, 1, 2, 9};
        for (int s : steps) {
            x.child(1, s);
        }
        DUE.is("51 swap", x.swap(0, 2), 1);
        stands(x, "51", 2, 1, 0, 3);
        DUE.is("51 one", x.swap(1, 1), 0);
        DUE.is("51 too far for one", x.swap(1, 3), STUCK);
        DUE.is("51 too far for the other", x.swap(3, 1), STUCK);
        DUE.is("51 child 4", x.swap(4, 1), BAD);
        DUE.is("51 other -1", x.swap(1, -1), BAD);
        DUE.is("52 to the end", x.move(2, 3), 0);
        stands(x, "52", 1, 0, 3, 2);
        DUE.is("52 to the front", x.move(3, 0), 2);
        stands(x, "52 front", 3, 1, 0, 2);
        DUE.is("52 where it is", x.move(1, 1), 1);
        DUE.is("52 place 4", x.move(1, 4), BAD);
        DUE.is("52 place -1", x.move(1, -1), BAD);
        DUE.is("52 child 4", x.move(4, 0), BAD);
        DUE.is("53 turn", x.turn(), 2);
        stands(x, "53", 2, 0, 1, 3);
        x.child(1, 1);
        stands(x, "9 at the end", 2, 0, 1, 3, 4);
        DUE.is("53 turn five", x.turn(), 4);
        stands(x, "53 five", 4, 3, 1, 0, 2);
    }

    // ---- 54
    private static void leaving() {
        OneTwoOneTwo x = new OneTwoOneTwo();
        DUE.is("54 nobody", x.leaves(), STUCK);
        x = yardOf(4, 0);
        x.wish(0, 3, true, 1);
        x.wish(0, 1, false, 2);
        x.wish(3, 1, true, 3);
        x.wish(2, 1, true, 4);
        x.move(3, 1);
        DUE.is("54 leaves", x.leaves(), 3);
        stands(x, "54", 0, 1, 2);
        DUE.is("54 wishes left", x.status(2), 2);
        DUE.is("54 the other first", x.wishOf(0, 0), 0);
        DUE.is("54 first left", x.wishOf(0, 3), 2);
        DUE.is("54 its kind", x.wishOf(0, 2), 0);
        DUE.is("54 second left", x.wishOf(1, 3), 4);
        DUE.is("54 its child", x.wishOf(1, 0), 2);
        DUE.is("9 the number again", x.child(50, 5), 3);
        DUE.is("16 none of the old wishes", x.childOf(3, 3), 0);
        DUE.is("16 strong anew", x.childOf(3, 0), 50);
        for (int left = 3; left >= 0; left--) {
            DUE.is("54 on", x.leaves(), left);
        }
        DUE.is("54 no wishes", x.status(2), 0);
    }

    // ---- 55, 56
    private static void terms() {
        OneTwoOneTwo x = new OneTwoOneTwo();
        DUE.is("55 n 0", x.term(0), BAD);
        DUE.is("55 n 61", x.term(61), BAD);
        DUE.is("55 nobody", x.term(1), STUCK);
        x.child(1, 0);
        DUE.is("55 no counts", x.term(1), STUCK);
        DUE.is("56 seed at first", x.seed(77), 1);
        DUE.is("56 seed", x.seed(-3), 77);
        DUE.is("59 seed", x.status(6), -3);
        DUE.is("56 the one ahead", x.seed(1), -3);
        for (int i = 1; i < 5; i++) {
            x.child(1, 0);
        }
        x.count(0, 2, 0);
        x.count(0, 5, 0);
        x.count(1, 3, 0);
        x.wish(0, 1, true, 64);
        x.wish(2, 4, true, 8);
        x.wish(3, 1, false, 1);
        int[] who = {0, 1, 2, 3, 4};
        int seed = 1;
        int sum = 0;
        for (int i = 0; i < 60; i++) {
            int[] drawn = new int[3];
            for (int d = 0; d < 3; d++) {
                seed = seed * 1103515245 + 12345;
                drawn[d] = (seed >>> 16) % (d == 2 ? 3 : 5);
            }
            int p = placeOf(who, drawn[0]);
            int q = placeOf(who, drawn[1]);
            who[p] = drawn[1];
            who[q] = drawn[0];
            sum += valueOf(who, drawn[2]);
        }
        DUE.is("55 term", x.term(60), sum);
        DUE.is("55 seed behind it", x.status(6), seed);
        stands(x, "55 in truth", who);
        x.seed(1);
        x.term(1);
        DUE.is("55 three draws", x.status(6), draws(1, 3));
        x.seed(Integer.MIN_VALUE);
        x.term(2);
        DUE.is("55 six draws", x.status(6), draws(Integer.MIN_VALUE, 6));
    }

    private static int draws(int seed, int n) {
        int now = seed;
        for (int i = 0; i < n; i++) {
            now = now * 1103515245 + 12345;
        }
        return now;
    }

    private static int placeOf(int[] who, int child) {
        for (int p = 0; p < who.length; p++) {
            if (who[p] == child) {
                return p;
            }
        }
        return -1;
    }

    private static int valueOf(int[] who, int count) {
        int[] by = {2, 5, 3};
        int[] side = new int[5];
        for (int p = 0; p < 5; p++) {
            side[who[p]] = (count == 2 ? 4 - p : p) % by[count];
        }
        return (side[0] == side[1] ? 64 : 0) + (side[2] == side[4] ? 8 : 0) + (side[3] != side[1] ? 1 : 0);
    }

    // ---- 57, 58
    private static void images() {
        OneTwoOneTwo x = new OneTwoOneTwo();
        DUE.is("58 nothing was kept", x.back(), STUCK);
        x.child(5, 1);
        x.child(6, 2);
        x.count(0, 2, 0);
        x.wish(0, 1, true, 9);
        x.seed(4711);
        x.show(0, 0);
        DUE.is("57 image", x.image(), 1);
        x.turn();
        x.child(7, 3);
        x.count(4, 3, 1);
        x.content();
        x.seed(5);
        x.show(1, 1);
        x.row(2, 0, 1);
        x.set(2, 0, 9);
        x.feed('c');
        x.child(0, 0);
        DUE.is("58 back", x.back(), 1);
        stands(x, "58", 0, 1);
        DUE.is("58 strong", x.childOf(1, 0), 6);
        DUE.is("58 counts", x.status(1), 1);
        DUE.is("58 wishes", x.status(2), 1);
        DUE.is("58 worth", x.status(3), 9);
        DUE.is("58 seed", x.status(6), 4711);
        DUE.is("58 the tape stays", x.status(5), 1);
        DUE.is("58 a count's shelf stays", x.holds(0), 10);
        DUE.is("58 one of a count that is gone", x.holds(1), -1);
        DUE.is("58 a row stays", x.element(2, 0), 9);
        DUE.is("58 refusals stay", x.status(12), 1);
        DUE.is("58 refusals stay, stuck", x.status(15), 1);
        DUE.is("59 shelves", x.status(7), 2);
        x.leaves();
        x.leaves();
        for (int i = 1; i < 6; i++) {
            x.count(0, 2, 0);
        }
        x.show(0, 5);
        x.show(7, 1);
        DUE.is("58 once more", x.back(), 1);
        DUE.is("58 gone from the first shelf", x.holds(0), -1);
        DUE.is("58 gone from the last shelf", x.holds(7), -1);
        stands(x, "58 once more", 0, 1);
        x.leaves();
        DUE.is("57 anew", x.image(), 1);
        x.child(1, 1);
        DUE.is("58 to the newer", x.back(), 1);
        stands(x, "58 to the newer", 0);
    }

    // ---- 59 and REFUSALS
    private static void refusalsAreCounted() {
        OneTwoOneTwo x = yardOf(14, 0);
        x.count(0, 2, 0);
        x.child(0, 0);
        x.at(14);
        x.show(0, 0);
        x.fits(0);
        x.set(1, 0, 0);
        x.set(2, 0, 0);
        x.set(3, 0, 0);
        x.swap(0, 1);
        x.most(0);
        x.child(1, 0);
        x.unmet(0);
        x.change(0);
        x.says(0, 0);
        int[] want = {2, 1, 3, 2, 1};
        for (int i = 0; i < 5; i++) {
            DUE.is("59 refusals " + (-2 - i), x.status(12 + i), want[i]);
        }
        DUE.is("59 what 17", x.status(17), -1);
        DUE.is("59 what 11", x.status(11), -1);
        DUE.is("59 what 8", x.status(8), -1);
        DUE.is("59 what -1", x.status(-1), -1);
    }
}
