import java.lang.reflect.InvocationTargetException;
import java.lang.reflect.Method;
import java.util.ArrayList;
import java.util.Comparator;
import java.util.List;
import java.util.function.Supplier;
import java.util.function.ToLongFunction;

/** What the tests of single sentences share: each method with a Sentence is one test. */
abstract class Boundary {
    static final int NONE = OneTwoOneTwo.NONE;
    static final int BAD = -2;
    static final int OTHER = -3;
    static final int NOTHING = -4;
    static final int STUCK = -5;
    static final int FULL = -6;

    private static final int REFUSALS = 5;
    private static int asked = 0;
    private static int wrong = 0;

    /** Runs every test of the class and ends the program with 1 if one failed. */
    static void run(Class<?> tests) {
        int failed = failuresOf(tests).size();
        System.out.println(sentencesOf(tests).size() + " sentences, " + failed + " do not hold");
        if (failed != 0) {
            System.exit(1);
        }
    }

    /** Runs every test of the class; tells and answers the names of those that failed. */
    static List<String> failuresOf(Class<?> tests) {
        List<String> failed = new ArrayList<>();
        for (Method test : sentencesOf(tests)) {
            if (!holds(test)) {
                failed.add(test.getName());
            }
        }
        return failed;
    }

    static List<Method> sentencesOf(Class<?> tests) {
        List<Method> found = new ArrayList<>();
        for (Method m : tests.getDeclaredMethods()) {
            if (m.isAnnotationPresent(Sentence.class)) {
                found.add(m);
            }
        }
        found.sort(Comparator.comparing(Method::getName));
        return found;
    }

    private static boolean holds(Method test) {
        asked = 0;
        wrong = 0;
        try {
            test.setAccessible(true);
            test.invoke(null);
        } catch (InvocationTargetException e) {
            complain("threw " + e.getCause());
        } catch (IllegalAccessException e) {
            complain("can't be called");
        }
        if (asked == 0) {
            complain("asked nothing");
        }
        if (wrong != 0) {
            Sentence sentence = test.getAnnotation(Sentence.class);
            System.out.println("FAILED " + test.getDeclaringClass().getName() + "." + test.getName() + ": "
                + sentence.of() + ", \"" + sentence.says() + "\"");
        }
        return wrong == 0;
    }

    private static void complain(String what) {
        wrong++;
        System.out.println("  line " + lineOfTest() + ": " + what);
    }

    private static int lineOfTest() {
        return StackWalker.getInstance().walk(frames -> frames.filter(f -> f.getClassName().endsWith("Test"))
            .findFirst().map(StackWalker.StackFrame::getLineNumber).orElse(0));
    }

    // ---- what a test asks

    static void due(long got, long want) {
        asked++;
        if (got != want) {
            complain("answered " + got + ", due is " + want);
        }
    }

    /** The call is refused with the code, and nothing changes but how many refusals there were. */
    static void refused(int code, Supplier<OneTwoOneTwo> made, ToLongFunction<OneTwoOneTwo> call) {
        answersAndCounts(code, code, made, call);
    }

    /** The call answers so; nothing at all changes. */
    static void answers(long want, Supplier<OneTwoOneTwo> made, ToLongFunction<OneTwoOneTwo> call) {
        answersAndCounts(want, 0, made, call);
    }

    private static void answersAndCounts(long want, int code, Supplier<OneTwoOneTwo> made,
            ToLongFunction<OneTwoOneTwo> call) {
        OneTwoOneTwo x = made.get();
        due(call.applyAsLong(x), want);
        List<Long> ahead = allOf(made.get());
        if (code != 0) {
            ahead.set(BAD - code, ahead.get(BAD - code) + 1);
        }
        same(allOf(x), ahead);
    }

    /** Reading the text tells this fault; it is counted as BAD, and nothing comes of it. */
    static void fault(int place, Supplier<OneTwoOneTwo> made, String text) {
        OneTwoOneTwo x = made.get();
        x.wipe();
        due(read(x, text), -20 - place);
        OneTwoOneTwo ahead = made.get();
        ahead.wipe();
        List<Long> want = allOf(ahead);
        want.set(0, want.get(0) + 1);
        same(allOf(x), want);
    }

    private static void same(List<Long> got, List<Long> want) {
        asked++;
        if (!got.equals(want)) {
            complain("the state is " + got + ", due is " + want);
        }
    }

    /** All that can be asked of it; the refusals come first. What it asks last changes it. */
    static List<Long> allOf(OneTwoOneTwo x) {
        List<Long> all = new ArrayList<>();
        for (int i = 0; i < REFUSALS; i++) {
            all.add((long) x.status(12 + i));
        }
        addYard(all, x);
        for (int s = 0; s < 8; s++) {
            all.add((long) x.holds(s));
            for (int i = 0; i < 6; i++) {
                all.add(x.element(s, i));
            }
        }
        all.add((long) x.status(5));
        all.add((long) x.yard());
        addYard(all, x);
        all.add((long) x.back());
        addYard(all, x);
        return all;
    }

    private static void addYard(List<Long> all, OneTwoOneTwo x) {
        for (int what : new int[] {0, 1, 2, 3, 4, 6, 7}) {
            all.add((long) x.status(what));
        }
        for (int c = 0; c < x.status(0); c++) {
            all.add(x.at(c) * 10_000L + x.childOf(c, 0) * 100L + x.childOf(c, 1));
        }
        for (int c = 0; c < x.status(1); c++) {
            all.add(x.countOf(c, 0) * 10_000L + x.countOf(c, 1) * 100L + x.countOf(c, 2));
        }
        for (int i = 0; i < Math.min(3, x.status(2)); i++) {
            all.add(x.wishOf(i, 0) * 1_000_000L + x.wishOf(i, 1) * 10_000L + x.wishOf(i, 2) * 100L + x.wishOf(i, 3));
        }
    }

    /** The row is so, from PLACE 0 on. */
    static void stands(OneTwoOneTwo x, int... who) {
        due(x.status(0), who.length);
        for (int p = 0; p < who.length; p++) {
            due(x.at(p), who[p]);
            due(x.childOf(who[p], 2), p);
        }
    }

    /** The TEAMS by a COUNT are so, from PLACE 0 on. */
    static void counted(OneTwoOneTwo x, int count, int... teams) {
        due(x.status(0), teams.length);
        for (int p = 0; p < teams.length; p++) {
            due(x.team(count, x.at(p)), teams[p]);
        }
    }

    // ---- what a test starts from

    static OneTwoOneTwo empty() {
        return new OneTwoOneTwo();
    }

    /** Children of STRONG 1, 2, 3 and so on, all of one STEP. */
    static OneTwoOneTwo children(int n, int step) {
        OneTwoOneTwo x = new OneTwoOneTwo();
        for (int i = 0; i < n; i++) {
            x.child(i + 1, step);
        }
        return x;
    }

    /** Children of STEP 0, and one COUNT. */
    static OneTwoOneTwo withCount(int children, int kind, int n, int a) {
        OneTwoOneTwo x = children(children, 0);
        x.count(kind, n, a);
        return x;
    }

    /** Children of these STEPS, all of STRONG 1. */
    static OneTwoOneTwo steps(int... steps) {
        OneTwoOneTwo x = new OneTwoOneTwo();
        for (int step : steps) {
            x.child(1, step);
        }
        return x;
    }

    /** Children of these STRONG, all of STEP 0. */
    static OneTwoOneTwo strong(int... strong) {
        OneTwoOneTwo x = new OneTwoOneTwo();
        for (int s : strong) {
            x.child(s, 0);
        }
        return x;
    }

    /**
     * Something of everything. CHILDREN 0 to 4, who stand 0, 4, 1, 2, 3; COUNTS 0 to 2; WISHES 0 to 2;
     * SHELVES: 0 a ROW of 6 longs (two changes, then WRONG), 1 COUNT 1, 2 a ROW of 3 bytes, 3 a ROW of 5 ints,
     * the others NOTHING; a TAPE that is a YARD; an image of two children.
     */
    static OneTwoOneTwo some() {
        OneTwoOneTwo x = new OneTwoOneTwo();
        x.child(30, 2);
        x.child(50, 1);
        x.image();
        x.child(20, 9);
        x.child(70, 3);
        x.child(40, 0);
        x.move(4, 1);
        x.count(0, 2, 0);
        x.count(3, 3, 2);
        x.count(4, 4, 0);
        x.wish(0, 1, true, 50);
        x.wish(0, 2, false, 30);
        x.wish(3, 4, true, 20);
        x.row(0, 3, 6);
        tell(x, 0, 203, 103, 5, 6, 7, 8);
        x.show(1, 1);
        x.row(2, 0, 3);
        tell(x, 2, 1, 2, 3);
        x.row(3, 2, 5);
        tell(x, 3, 0, 1, 2, 1, 0);
        for (char letter : "child 5 5".toCharArray()) {
            x.feed(letter);
        }
        x.seed(4711);
        return x;
    }

    static void tell(OneTwoOneTwo x, int s, long... told) {
        for (int i = 0; i < told.length; i++) {
            x.set(s, i, told[i]);
        }
    }

    static int read(OneTwoOneTwo x, String text) {
        for (int i = 0; i < text.length(); i++) {
            x.feed(text.charAt(i));
        }
        return x.yard();
    }

    /** Just outside of least to greatest, and as far outside as can be. */
    static int[] outside(int least, int greatest) {
        return new int[] {least - 1, greatest + 1, Integer.MIN_VALUE, Integer.MAX_VALUE};
    }
}
