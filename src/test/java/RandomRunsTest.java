import java.lang.reflect.Method;
import java.util.ArrayList;
import java.util.List;
import java.util.Random;

/**
 * Runs of up to 512 calls by a fixed random seed, on the class and on PlainYard: every answer
 * and, behind every call, all that can be asked of the state has to be the same.
 * Arguments: the project's folder, and then, if wanted, how many runs.
 */
public final class RandomRunsTest {
    private static final String WORDS = "child count with without swap move";

    private final Random random;
    private final OneTwoOneTwo real = new OneTwoOneTwo();
    private final PlainYard plain = new PlainYard();
    private final List<String> told = new ArrayList<>();
    private final List<Method> methods = new ArrayList<>();
    /** How sure an argument is one that may be: from run to run more or less. */
    private final int sure;

    private RandomRunsTest(long seed) {
        random = new Random(seed);
        sure = 50 + random.nextInt(50);
        for (Method m : OneTwoOneTwo.class.getDeclaredMethods()) {
            if (java.lang.reflect.Modifier.isPublic(m.getModifiers())) {
                methods.add(m);
            }
        }
        methods.sort((a, b) -> a.getName().compareTo(b.getName()));
    }

    public static void main(String[] args) throws Exception {
        int runs = args.length > 1 ? Integer.parseInt(args[1]) : 1500;
        for (int run = 0; run < runs; run++) {
            RandomRunsTest test = new RandomRunsTest(run);
            String wrong = test.run();
            if (wrong != null) {
                System.out.println("run " + run + ": " + wrong);
                for (String call : test.told) {
                    System.out.println("  " + call);
                }
                System.exit(1);
            }
        }
        System.out.println(runs + " runs, all answers are alike");
    }

    private String run() throws Exception {
        int start = random.nextInt(15);
        for (int i = 0; i < start; i++) {
            ask("child", 1 + random.nextInt(99), random.nextInt(10));
        }
        for (int i = random.nextInt(7); i > 0; i--) {
            ask("count", random.nextInt(6), 2 + random.nextInt(4), random.nextInt(14));
        }
        for (int i = random.nextInt(21); i > 0; i--) {
            askAny("wish");
        }
        while (told.size() < 480) {
            int luck = random.nextInt(100);
            if (luck < 3) {
                feedText();
            } else if (luck < 6) {
                tellMorning();
            } else if (luck < 9) {
                tellChanges();
            } else {
                askAny(seldom(methods.get(random.nextInt(methods.size())).getName()));
            }
            if (wrong == null) {
                compareState();
            }
            if (wrong != null) {
                return wrong;
            }
        }
        return null;
    }

    private String wrong = null;

    /** What empties the yard, or is dear to the plain one, comes less often. */
    private String seldom(String name) {
        boolean rare = name.equals("leaves") || name.equals("content") || name.equals("back") || name.equals("wipe")
            || name.equals("changes") || name.equals("most") || name.equals("feed");
        return rare && random.nextInt(4) != 0 ? "status" : name;
    }

    private Method method(Class<?> where, String name) {
        for (Method m : where.getDeclaredMethods()) {
            if (m.getName().equals(name) && java.lang.reflect.Modifier.isPublic(m.getModifiers())) {
                return m;
            }
        }
        throw new IllegalStateException(name);
    }

    private long ask(String name, Object... args) throws Exception {
        long got = ((Number) method(OneTwoOneTwo.class, name).invoke(real, args)).longValue();
        long want = ((Number) method(PlainYard.class, name).invoke(plain, args)).longValue();
        StringBuilder call = new StringBuilder(name).append(java.util.Arrays.toString(args)).append(" = ").append(got);
        told.add(call.toString());
        if (got != want && wrong == null) {
            wrong = call + ", due is " + want;
        }
        return got;
    }

    private void compareState() {
        long got = 0;
        long want = 0;
        for (int what = 0; what < 17; what++) {
            got = 31 * got + real.status(what);
            want = 31 * want + plain.status(what);
        }
        int n = real.status(0);
        for (int c = 0; c < n; c++) {
            got = 31 * got + 3 * real.at(c) + 5 * real.childOf(c, 0) + 7 * real.childOf(c, 1) + 11 * real.childOf(c, 2);
            want = 31 * want + 3 * plain.at(c) + 5 * plain.childOf(c, 0) + 7 * plain.childOf(c, 1) + 11 * plain.childOf(c, 2);
        }
        for (int w = 0; w < real.status(2); w++) {
            for (int what = 0; what < 4; what++) {
                got = 31 * got + real.wishOf(w, what);
                want = 31 * want + plain.wishOf(w, what);
            }
        }
        for (int s = 0; s < 8; s++) {
            got = 31 * got + real.holds(s);
            want = 31 * want + plain.holds(s);
            for (int i = 0; i < 41; i++) {
                got = 31 * got + real.element(s, i);
                want = 31 * want + plain.element(s, i);
            }
        }
        if (got != want) {
            wrong = "the state differs";
        }
    }

    private void feedText() throws Exception {
        StringBuilder text = new StringBuilder();
        String[] words = WORDS.split(" ");
        for (int i = 1 + random.nextInt(3); i > 0; i--) {
            int w = random.nextInt(words.length);
            text.append(words[w]).append(' ');
            int[][] ranges = {{99, 10}, {6, 6, 14}, {14, 14, 99}, {14, 14, 99}, {14, 14}, {14, 14}};
            for (int range : ranges[w]) {
                int limit = range == 14 && w > 1 ? Math.max(1, real.status(0)) : range;
                text.append(random.nextInt(limit)).append(random.nextInt(9) == 0 ? "  " : " ");
            }
            text.append(i > 1 || random.nextInt(9) == 0 ? ";" : "");
        }
        while (random.nextInt(3) == 0) {
            int at = random.nextInt(text.length());
            String strange = "; 0123456789abz" + (char) 0 + (char) 200 + (char) 10;
            if (random.nextBoolean()) {
                text.setCharAt(at, strange.charAt(random.nextInt(strange.length())));
            } else {
                text.deleteCharAt(at);
            }
        }
        for (int i = 0; i < text.length() && told.size() < 500; i++) {
            ask("feed", (int) text.charAt(i));
        }
        ask("yard");
    }

    /** Teams as they are by a count, with a change of two or a child that has miscounted. */
    private void tellMorning() throws Exception {
        int n = real.status(0);
        int s = random.nextInt(8);
        ask("row", s, random.nextInt(5), n + random.nextInt(3));
        int count = random.nextInt(Math.max(1, real.status(1)));
        int a = random.nextInt(Math.max(1, n));
        int b = random.nextInt(Math.max(1, n));
        for (int c = 0; c < n; c++) {
            ask("set", s, c, (long) real.team(count, c == a ? b : c == b ? a : c));
            plain.team(count, c == a ? b : c == b ? a : c);
        }
        if (n > 0 && random.nextInt(3) == 0) {
            ask("set", s, a, (long) random.nextInt(3));
        }
        ask("fits", s);
        ask("moved", count, s);
        ask("miscounted", s);
    }

    private void tellChanges() throws Exception {
        int n = real.status(0);
        int s = random.nextInt(8);
        int size = random.nextInt(6);
        ask("row", s, 1 + random.nextInt(3), size);
        for (int i = 0; i < size && n > 1; i++) {
            int p = random.nextInt(n - 1);
            ask("set", s, i, 100L * real.at(p) + real.at(p + 1));
        }
        ask("judge", s, size);
        ask("behind", s, size, 0);
        if (random.nextBoolean()) {
            ask("done", s, size);
        }
    }

    private void askAny(String name) throws Exception {
        Method m = method(OneTwoOneTwo.class, name);
        int[] limits = limitsOf(name);
        Class<?>[] types = m.getParameterTypes();
        Object[] args = new Object[types.length];
        for (int i = 0; i < types.length; i++) {
            if (types[i] == boolean.class) {
                args[i] = random.nextBoolean();
            } else if (types[i] == long.class) {
                args[i] = random.nextInt(3) == 0 ? random.nextLong() : random.nextInt(1500) - 20L;
            } else {
                args[i] = number(limits[i]);
            }
        }
        ask(name, args);
    }

    private static final int CHILD = -1;
    private static final int COUNT = -2;
    private static final int WISH = -3;

    private int number(int limit) {
        int below = limit == CHILD ? real.status(0) : limit == COUNT ? real.status(1) : limit == WISH ? real.status(2) : limit;
        if (random.nextInt(100) < sure) {
            return below > 0 ? random.nextInt(below) : 0;
        }
        switch (random.nextInt(6)) {
            case 0:
                return below;
            case 1:
                return -1;
            case 2:
                return random.nextInt();
            case 3:
                return below + 1;
            case 4:
                return random.nextBoolean() ? Integer.MAX_VALUE : Integer.MIN_VALUE;
            default:
                return random.nextInt(20) - 3;
        }
    }

    private int[] limitsOf(String name) {
        switch (name) {
            case "row":
                return new int[] {8, 5, 41};
            case "set":
            case "element":
                return new int[] {8, 15, 0};
            case "copy":
                return new int[] {8, 8, 10, 10, 10};
            case "show":
                return new int[] {8, COUNT};
            case "says":
                return new int[] {8, 6};
            case "child":
                return new int[] {100, 10};
            case "count":
                return new int[] {6, 6, 14};
            case "wish":
                return new int[] {CHILD, CHILD, 0, 100};
            case "feed":
                return new int[] {256};
            case "childOf":
                return new int[] {CHILD, 4};
            case "countOf":
                return new int[] {COUNT, 3};
            case "wishOf":
                return new int[] {WISH, 4};
            case "met":
                return new int[] {COUNT, WISH};
            case "team":
                return new int[] {COUNT, CHILD};
            case "members":
            case "strength":
                return new int[] {COUNT, 4};
            case "unlike":
                return new int[] {COUNT, COUNT};
            case "changes":
                return new int[] {COUNT, random.nextBoolean() ? 1200 : real.status(3) + 1};
            case "best":
                return new int[] {3};
            case "far":
                return new int[] {COUNT, CHILD, CHILD};
            case "out":
            case "outAt":
                return new int[] {21, CHILD};
            case "moved":
                return new int[] {COUNT, 8};
            case "fits":
            case "miscounted":
            case "holds":
                return new int[] {8};
            case "judge":
            case "done":
                return new int[] {8, 5};
            case "behind":
                return new int[] {8, 5, COUNT};
            case "term":
                return new int[] {61};
            case "seed":
                return new int[] {1000};
            case "status":
                return new int[] {18};
            case "heaviest":
            case "turned":
            case "unmet":
            case "value":
            case "even":
            case "change":
            case "most":
                return new int[] {COUNT};
            default:
                return new int[] {CHILD, CHILD};
        }
    }
}
