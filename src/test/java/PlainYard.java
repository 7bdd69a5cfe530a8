import java.util.ArrayList;
import java.util.Arrays;
import java.util.Collections;
import java.util.List;

/**
 * The document once more, said with lists, copies and brute force, without a look at how the
 * class does it: RandomRunsTest holds the two against each other.
 */
public final class PlainYard {
    private static final int NONE = -1;

    private record Child(int strong, int step) { }

    private record Count(int kind, int n, int a) { }

    private record Wish(int p, int q, boolean together, int worth) { }

    private record Image(List<Child> children, List<Integer> line, List<Count> counts, List<Wish> wishes, int seed) { }

    private List<Child> children = new ArrayList<>();
    private List<Integer> line = new ArrayList<>();
    private List<Count> counts = new ArrayList<>();
    private List<Wish> wishes = new ArrayList<>();
    private int seed = 1;
    private String tape = "";
    /** null, a Count's number as an Integer, or an array of one of five sorts. */
    private final Object[] shelves = new Object[8];
    private final int[] refused = new int[7];
    private Image image = null;

    private int no(int code) {
        refused[-code]++;
        return code;
    }

    private boolean isChild(int c) {
        return c >= 0 && c < children.size();
    }

    private boolean isCount(int c) {
        return c >= 0 && c < counts.size();
    }

    private boolean isWish(int i) {
        return i >= 0 && i < wishes.size();
    }

    private boolean isShelf(int s) {
        return s >= 0 && s < 8;
    }

    // ---- shelves

    private static int sortOf(Object o) {
        if (o instanceof byte[]) {
            return 0;
        } else if (o instanceof short[]) {
            return 1;
        } else if (o instanceof int[]) {
            return 2;
        } else if (o instanceof long[]) {
            return 3;
        }
        return o instanceof boolean[] ? 4 : NONE;
    }

    private static int size(Object o) {
        return java.lang.reflect.Array.getLength(o);
    }

    private static long get(Object o, int i) {
        if (o instanceof boolean[] b) {
            return b[i] ? 1 : 0;
        }
        return java.lang.reflect.Array.getLong(o, i);
    }

    public int row(int s, int sort, int n) {
        if (!isShelf(s) || sort < 0 || sort > 4 || n < 0 || n > 40) {
            return no(-2);
        }
        Object[] made = {new byte[n], new short[n], new int[n], new long[n], new boolean[n]};
        shelves[s] = made[sort];
        return 1;
    }

    public int set(int s, int i, long v) {
        int code = rowCode(s);
        if (code != 0) {
            return no(code);
        }
        Object o = shelves[s];
        if (i < 0 || i >= size(o)) {
            return no(-2);
        }
        if (o instanceof byte[] b) {
            b[i] = (byte) v;
        } else if (o instanceof short[] b) {
            b[i] = (short) v;
        } else if (o instanceof int[] b) {
            b[i] = (int) v;
        } else if (o instanceof long[] b) {
            b[i] = v;
        } else if (o instanceof boolean[] b) {
            b[i] = v != 0;
        }
        return 1;
    }

    private int rowCode(int s) {
        if (!isShelf(s)) {
            return -2;
        }
        if (shelves[s] instanceof Integer) {
            return -3;
        }
        return shelves[s] == null ? -4 : 0;
    }

    public int copy(int p, int q, int i, int j, int n) {
        if (!isShelf(p) || !isShelf(q)) {
            return no(-2);
        }
        Object from = shelves[p];
        Object to = shelves[q];
        if (from instanceof Integer || to instanceof Integer) {
            return no(-3);
        }
        if (from != null && to != null && from.getClass() != to.getClass()) {
            return no(-3);
        }
        if (from == null || to == null) {
            return no(-4);
        }
        if (i < 0 || j < 0 || n < 0 || (long) i + n > size(from) || (long) j + n > size(to)) {
            return no(-2);
        }
        System.arraycopy(from, i, to, j, n);
        return n;
    }

    public long element(int s, int i) {
        return rowCode(s) != 0 || i < 0 || i >= size(shelves[s]) ? 0 : get(shelves[s], i);
    }

    public int holds(int s) {
        if (isShelf(s) && shelves[s] instanceof Integer number) {
            return 10 + number;
        }
        return isShelf(s) ? sortOf(shelves[s]) : NONE;
    }

    public int show(int s, int count) {
        if (!isShelf(s) || (count != NONE && !isCount(count))) {
            return no(-2);
        }
        shelves[s] = count == NONE ? null : (Object) count;
        return 1;
    }

    public int says(int s, int kind) {
        if (!isShelf(s) || kind < 0 || kind > 5) {
            return no(-2);
        }
        if (shelves[s] == null) {
            return no(-4);
        }
        if (!(shelves[s] instanceof Integer number)) {
            return no(-3);
        }
        Count c = counts.get(number);
        List<List<Integer>> upwards = List.of(List.of(0), List.of(1, 0), List.of(2, 0), List.of(3, 0),
            List.of(4, 1, 0), List.of(5, 3, 0));
        if (!upwards.get(c.kind).contains(kind)) {
            return no(-3);
        }
        int n = line.size();
        int even = 0;
        for (int p = 0; p < n; p += 2) {
            even++;
        }
        int[] answers = {c.n, n == 0 ? NONE : told(c, n)[0], even, c.a > 0 && c.a < n ? 1 : 0,
            n == 0 ? NONE : told(c, n)[n - 1], c.a > 0 && c.a < n ? 1 : 0};
        return answers[kind];
    }

    // ---- counting off: what is said at each place, one after the other

    private static int[] told(Count c, int n) {
        int[] said = new int[n];
        int next = 0;
        switch (c.kind) {
            case 0 -> {
                for (int p = 0; p < n; p++) {
                    said[p] = next++ % c.n;
                }
            }
            case 1, 4 -> {
                for (int p = n - 1; p >= 0; p--) {
                    said[p] = next++ % c.n;
                    if (c.kind == 4) {
                        said[p] = c.n - 1 - said[p];
                    }
                }
            }
            case 2 -> {
                for (int first = 0; first < 2; first++) {
                    for (int p = first; p < n; p += 2) {
                        said[p] = next++ % c.n;
                    }
                }
            }
            default -> {
                for (int p = 0; p < n; p++) {
                    if (p == c.a && p > 0) {
                        next--;
                    }
                    said[p] = (next++ + (c.kind == 5 ? 1 : 0)) % c.n;
                }
            }
        }
        return said;
    }

    /** The team of each child by its number. */
    private static int[] teams(Count c, List<Integer> row) {
        int[] said = told(c, row.size());
        int[] teams = new int[row.size()];
        for (int p = 0; p < row.size(); p++) {
            teams[row.get(p)] = said[p];
        }
        return teams;
    }

    private boolean isMet(Wish w, int[] teams) {
        return w.together ? teams[w.p] == teams[w.q] : teams[w.p] != teams[w.q];
    }

    private int value(Count c, List<Integer> row) {
        int[] teams = teams(c, row);
        return wishes.stream().filter(w -> isMet(w, teams)).mapToInt(w -> w.worth).sum();
    }

    private List<Integer> swapped(List<Integer> row, int a, int b) {
        List<Integer> other = new ArrayList<>(row);
        Collections.swap(other, row.indexOf(a), row.indexOf(b));
        return other;
    }

    private List<Integer> shifted(List<Integer> row, int child, int place) {
        List<Integer> other = new ArrayList<>(row);
        other.remove(Integer.valueOf(child));
        other.add(place, child);
        return other;
    }

    private boolean near(List<Integer> row, int a, int b) {
        int apart = Math.abs(row.indexOf(a) - row.indexOf(b));
        return apart <= children.get(a).step && apart <= children.get(b).step;
    }

    // ---- what there is

    public int child(int strong, int step) {
        if (strong < 1 || strong > 99 || step < 0 || step > 9) {
            return no(-2);
        }
        if (children.size() == 14) {
            return no(-6);
        }
        line.add(children.size());
        children.add(new Child(strong, step));
        return children.size() - 1;
    }

    public int count(int kind, int n, int a) {
        if (kind < 0 || kind > 5 || n < 2 || n > 5 || a < 0 || a > 13) {
            return no(-2);
        }
        if (counts.size() == 6) {
            return no(-6);
        }
        counts.add(new Count(kind, n, a));
        return counts.size() - 1;
    }

    public int wish(int child, int other, boolean together, int worth) {
        if (!isChild(child) || !isChild(other) || child == other || worth < 1 || worth > 99) {
            return no(-2);
        }
        if (wishes.size() == 20) {
            return no(-6);
        }
        wishes.add(new Wish(child, other, together, worth));
        return wishes.size();
    }

    public int content() {
        int n = wishes.size();
        wishes = new ArrayList<>();
        return n;
    }

    public int feed(int letter) {
        if (letter < 0 || letter > 255) {
            return no(-2);
        }
        if (tape.length() == 250) {
            return no(-6);
        }
        tape += (char) letter;
        return tape.length();
    }

    public int wipe() {
        int n = tape.length();
        tape = "";
        return n;
    }

    // ---- the tape: tokens by a pattern first, then statements by their forms

    private record Token(int at, String text) { }

    public int yard() {
        Image ahead = kept();
        List<Token> tokens = new ArrayList<>();
        java.util.regex.Matcher m = java.util.regex.Pattern.compile("[a-z]+|[0-9]+|[^ ]", java.util.regex.Pattern.DOTALL)
            .matcher(tape);
        while (m.find()) {
            tokens.add(new Token(m.start(), m.group()));
        }
        tokens.add(new Token(tape.length(), ""));
        tape = "";
        int statements = 0;
        int t = 0;
        while (true) {
            int used = statement(tokens, t);
            if (used <= 0) {
                restore(ahead);
                no(-2);
                return -20 - tokens.get(t - used).at;
            }
            statements++;
            t += used;
            if (tokens.get(t).text.isEmpty()) {
                return statements;
            }
            if (!tokens.get(t).text.equals(";")) {
                restore(ahead);
                no(-2);
                return -20 - tokens.get(t).at;
            }
            t++;
        }
    }

    /** How many tokens it took; or 0 less how many stood well ahead of the wrong one. */
    private int statement(List<Token> tokens, int t) {
        String word = tokens.get(t).text;
        int n = children.size();
        int[][] forms;
        switch (word) {
            case "child" -> forms = n == 14 ? null : new int[][] {{1, 99}, {0, 9}};
            case "count" -> forms = counts.size() == 6 ? null : new int[][] {{0, 5}, {2, 5}, {0, 13}};
            case "with", "without" -> forms = wishes.size() == 20 ? null : new int[][] {{0, n - 1}, {0, n - 1}, {1, 99}};
            case "swap", "move" -> forms = new int[][] {{0, n - 1}, {0, n - 1}};
            default -> forms = null;
        }
        if (forms == null) {
            return 0;
        }
        int[] v = new int[3];
        for (int i = 0; i < forms.length; i++) {
            String text = tokens.get(t + 1 + i).text;
            if (!text.matches("[0-9]{1,2}")) {
                return -1 - i;
            }
            v[i] = Integer.parseInt(text);
            boolean twice = i == 1 && v[0] == v[1] && List.of("with", "without", "swap").contains(word);
            if (v[i] < forms[i][0] || v[i] > forms[i][1] || twice) {
                return -1 - i;
            }
        }
        switch (word) {
            case "child" -> child(v[0], v[1]);
            case "count" -> count(v[0], v[1], v[2]);
            case "swap" -> line = swapped(line, v[0], v[1]);
            case "move" -> line = shifted(line, v[0], v[1]);
            default -> wish(v[0], v[1], word.equals("with"), v[2]);
        }
        return 1 + forms.length;
    }

    public int childOf(int child, int what) {
        if (!isChild(child) || what < 0 || what > 3) {
            return no(-2);
        }
        int in = (int) wishes.stream().filter(w -> w.p == child || w.q == child).count();
        return new int[] {children.get(child).strong, children.get(child).step, line.indexOf(child), in}[what];
    }

    public int countOf(int count, int what) {
        if (!isCount(count) || what < 0 || what > 2) {
            return no(-2);
        }
        Count c = counts.get(count);
        return new int[] {c.kind, c.n, c.a}[what];
    }

    public int wishOf(int i, int what) {
        if (!isWish(i) || what < 0 || what > 3) {
            return no(-2);
        }
        Wish w = wishes.get(i);
        return new int[] {w.p, w.q, w.together ? 1 : 0, w.worth}[what];
    }

    public int at(int place) {
        return isChild(place) ? line.get(place) : no(-2);
    }

    public int team(int count, int child) {
        return isCount(count) && isChild(child) ? teams(counts.get(count), line)[child] : no(-2);
    }

    private boolean isTeam(int count, int team) {
        return isCount(count) && team >= 0 && team < counts.get(count).n;
    }

    public int members(int count, int team) {
        if (!isTeam(count, team)) {
            return no(-2);
        }
        int bits = 0;
        int[] teams = teams(counts.get(count), line);
        for (int c = 0; c < teams.length; c++) {
            bits += teams[c] == team ? 1 << c : 0;
        }
        return bits;
    }

    private int[] strengths(int count) {
        int[] sums = new int[counts.get(count).n];
        int[] teams = teams(counts.get(count), line);
        for (int c = 0; c < teams.length; c++) {
            sums[teams[c]] += children.get(c).strong;
        }
        return sums;
    }

    public int strength(int count, int team) {
        return isTeam(count, team) ? strengths(count)[team] : no(-2);
    }

    public int heaviest(int count) {
        if (!isCount(count)) {
            return no(-2);
        }
        int[] sums = strengths(count);
        int most = Arrays.stream(sums).max().getAsInt();
        for (int t = 0;; t++) {
            if (sums[t] == most) {
                return t;
            }
        }
    }

    public int turned(int count) {
        if (!isCount(count)) {
            return no(-2);
        }
        List<Integer> other = new ArrayList<>(line);
        Collections.reverse(other);
        return value(counts.get(count), other);
    }

    public int unlike(int count, int other) {
        if (!isCount(count) || !isCount(other)) {
            return no(-2);
        }
        int[] a = teams(counts.get(count), line);
        int[] b = teams(counts.get(other), line);
        int n = 0;
        for (int c = 0; c < a.length; c++) {
            n += a[c] == b[c] ? 0 : 1;
        }
        return n;
    }

    public int unmet(int count) {
        if (!isCount(count)) {
            return no(-2);
        }
        int[] teams = teams(counts.get(count), line);
        for (int worth = 99; worth > 0; worth--) {
            for (int i = 0; i < wishes.size(); i++) {
                if (wishes.get(i).worth == worth && !isMet(wishes.get(i), teams)) {
                    return i;
                }
            }
        }
        return NONE;
    }

    /** By walking along the wishes, one child after the other. */
    private void gather(int child, boolean[] seen) {
        seen[child] = true;
        for (Wish w : wishes) {
            if (w.together && (w.p == child || w.q == child)) {
                int next = w.p + w.q - child;
                if (!seen[next]) {
                    gather(next, seen);
                }
            }
        }
    }

    public int friendsOf(int child) {
        if (!isChild(child)) {
            return no(-2);
        }
        boolean[] seen = new boolean[14];
        gather(child, seen);
        int bits = 0;
        for (int c = 0; c < 14; c++) {
            bits += seen[c] ? 1 << c : 0;
        }
        return bits;
    }

    public int groups() {
        return (int) java.util.stream.IntStream.range(0, children.size()).map(this::friendsOf).distinct().count();
    }

    public int conflict() {
        for (int i = 0; i < wishes.size(); i++) {
            Wish w = wishes.get(i);
            if (!w.together && friendsOf(w.p) == friendsOf(w.q)) {
                return i;
            }
        }
        return NONE;
    }

    public int changes(int count, int v) {
        if (!isCount(count) || v < 0 || v > 9999) {
            return no(-2);
        }
        Count c = counts.get(count);
        List<List<Integer>> rows = new ArrayList<>();
        rows.add(line);
        for (int done = 0; done <= 2; done++) {
            List<List<Integer>> further = new ArrayList<>();
            for (List<Integer> row : rows) {
                if (value(c, row) >= v) {
                    return done;
                }
                for (int a = 0; done < 2 && a < row.size(); a++) {
                    for (int b = a + 1; b < row.size(); b++) {
                        further.add(swapped(row, a, b));
                    }
                }
            }
            rows = further;
        }
        return NONE;
    }

    public int place(int child) {
        if (!isChild(child)) {
            return no(-2);
        }
        int best = 0;
        int most = -1;
        for (int p = 0; p < line.size(); p++) {
            int sum = 0;
            for (Count c : counts) {
                sum += value(c, shifted(line, child, p));
            }
            if (sum > most) {
                most = sum;
                best = p;
            }
        }
        return best;
    }

    public int value(int count) {
        return isCount(count) ? value(counts.get(count), line) : no(-2);
    }

    public int met(int count, int i) {
        if (!isCount(count) || !isWish(i)) {
            return no(-2);
        }
        return isMet(wishes.get(i), teams(counts.get(count), line)) ? 1 : 0;
    }

    public int best(int what) {
        if (what < 0 || what > 2) {
            return no(-2);
        }
        if (counts.isEmpty()) {
            return no(-5);
        }
        int found = 0;
        for (int c = 1; c < counts.size(); c++) {
            boolean better = what == 0 ? value(c) > value(found) : what == 1 ? value(c) < value(found) : even(c) < even(found);
            found = better ? c : found;
        }
        return found;
    }

    public int even(int count) {
        if (!isCount(count)) {
            return no(-2);
        }
        int[] sums = strengths(count);
        Arrays.sort(sums);
        return sums[sums.length - 1] - sums[0];
    }

    public int change(int count) {
        if (!isCount(count)) {
            return no(-2);
        }
        Count c = counts.get(count);
        int most = value(c, line);
        int found = NONE;
        for (int a = 0; a < line.size(); a++) {
            for (int b = a + 1; b < line.size(); b++) {
                if (near(line, a, b) && value(c, swapped(line, a, b)) > most) {
                    most = value(c, swapped(line, a, b));
                    found = 100 * a + b;
                }
            }
        }
        return found;
    }

    public int far(int count, int child, int other) {
        if (!isCount(count) || !isChild(child) || !isChild(other) || child == other) {
            return no(-2);
        }
        for (int way = 0; way < line.size(); way++) {
            for (int mover : new int[] {child, other}) {
                for (int p : new int[] {line.indexOf(mover) - way, line.indexOf(mover) + way}) {
                    if (p >= 0 && p < line.size()) {
                        int[] teams = teams(counts.get(count), shifted(line, mover, p));
                        if (teams[child] == teams[other]) {
                            return way;
                        }
                    }
                }
            }
        }
        return NONE;
    }

    public int most(int count) {
        if (!isCount(count)) {
            return no(-2);
        }
        if (children.size() > 8) {
            return no(-5);
        }
        return mostFrom(counts.get(count), new ArrayList<>(line), 0);
    }

    private int mostFrom(Count c, List<Integer> row, int from) {
        if (from >= row.size()) {
            return value(c, row);
        }
        int most = 0;
        for (int p = from; p < row.size(); p++) {
            Collections.swap(row, from, p);
            most = Math.max(most, mostFrom(c, row, from + 1));
            Collections.swap(row, from, p);
        }
        return most;
    }

    private int often(List<Integer> row, int a, int b) {
        int n = 0;
        for (Count c : counts) {
            n += teams(c, row)[a] == teams(c, row)[b] ? 1 : 0;
        }
        return n;
    }

    public int always(int child) {
        if (!isChild(child)) {
            return no(-2);
        }
        int bits = (1 << children.size()) - 1;
        for (int c = 0; c < counts.size(); c++) {
            bits &= members(c, team(c, child));
        }
        return bits;
    }

    public int often(int child, int other) {
        return isChild(child) && isChild(other) && child != other ? often(line, child, other) : no(-2);
    }

    public int safe(int child, int other) {
        if (!isChild(child) || !isChild(other) || child == other) {
            return no(-2);
        }
        for (int n = counts.size();; n--) {
            for (int p = 0; p < line.size(); p++) {
                if (often(shifted(line, other, p), child, other) == n) {
                    return p;
                }
            }
        }
    }

    private List<Integer> outOrder(int k) {
        java.util.ArrayDeque<Integer> round = new java.util.ArrayDeque<>(line);
        List<Integer> order = new ArrayList<>();
        while (!round.isEmpty()) {
            for (int i = 1; i < k; i++) {
                round.addLast(round.removeFirst());
            }
            order.add(round.removeFirst());
        }
        return order;
    }

    public int out(int k, int i) {
        return k < 1 || k > 20 || !isChild(i) ? no(-2) : outOrder(k).get(i);
    }

    public int outAt(int k, int child) {
        return k < 1 || k > 20 || !isChild(child) ? no(-2) : outOrder(k).indexOf(child);
    }

    public int stays(int child) {
        if (!isChild(child)) {
            return no(-2);
        }
        for (int k = 1; k <= 20; k++) {
            if (outAt(k, child) == children.size() - 1) {
                return k;
            }
        }
        return NONE;
    }

    // ---- told

    private int wrongTeams(Count c, List<Integer> row, Object told) {
        int[] teams = teams(c, row);
        int n = 0;
        for (int i = 0; i < teams.length; i++) {
            n += get(told, i) == teams[i] ? 0 : 1;
        }
        return n;
    }

    private int toldCode(int s, int n) {
        int code = rowCode(s);
        return code == 0 && size(shelves[s]) < n ? -2 : code;
    }

    public int fits(int s) {
        int code = toldCode(s, children.size());
        if (code != 0) {
            return no(code);
        }
        int bits = 0;
        for (int c = 0; c < counts.size(); c++) {
            bits += wrongTeams(counts.get(c), line, shelves[s]) == 0 ? 1 << c : 0;
        }
        return bits;
    }

    public int moved(int count, int s) {
        int code = isCount(count) ? toldCode(s, children.size()) : -2;
        if (code != 0) {
            return no(code);
        }
        for (int a = 0; a < line.size(); a++) {
            for (int b = a + 1; b < line.size(); b++) {
                if (wrongTeams(counts.get(count), swapped(line, a, b), shelves[s]) == 0) {
                    return 100 * a + b;
                }
            }
        }
        return NONE;
    }

    public int miscounted(int s) {
        int code = toldCode(s, children.size());
        if (code != 0) {
            return no(code);
        }
        return counts.isEmpty() ? no(-5)
            : counts.stream().mapToInt(c -> wrongTeams(c, line, shelves[s])).min().getAsInt();
    }

    /** The row behind the told changes; null if one is wrong, which is then left in wrongAt. */
    private List<Integer> behindChanges(int s, int n) {
        List<Integer> row = line;
        for (int i = 0; i < n; i++) {
            long e = get(shelves[s], i);
            wrongAt = i;
            List<Integer> next = null;
            for (int a = 0; a < row.size(); a++) {
                for (int b = 0; b < row.size(); b++) {
                    if (a != b && e == 100 * a + b && near(row, a, b)) {
                        next = swapped(row, a, b);
                    }
                }
            }
            if (next == null) {
                return null;
            }
            row = next;
        }
        return row;
    }

    private int wrongAt = 0;

    private int changesCode(int s, int n) {
        return n < 0 || n > 40 ? -2 : toldCode(s, n);
    }

    public int judge(int s, int n) {
        int code = changesCode(s, n);
        if (code != 0) {
            return no(code);
        }
        return behindChanges(s, n) == null ? wrongAt : NONE;
    }

    public int behind(int s, int n, int count) {
        int code = isCount(count) ? changesCode(s, n) : -2;
        if (code != 0) {
            return no(code);
        }
        List<Integer> row = behindChanges(s, n);
        return row == null ? no(-5) : value(counts.get(count), row);
    }

    public int done(int s, int n) {
        int code = changesCode(s, n);
        if (code != 0) {
            return no(code);
        }
        List<Integer> row = behindChanges(s, n);
        if (row == null) {
            return no(-5);
        }
        line = new ArrayList<>(row);
        return n;
    }

    // ---- in truth

    public int swap(int child, int other) {
        if (!isChild(child) || !isChild(other)) {
            return no(-2);
        }
        if (child == other) {
            return 0;
        }
        if (!near(line, child, other)) {
            return no(-5);
        }
        line = swapped(line, child, other);
        return 1;
    }

    public int move(int child, int place) {
        if (!isChild(child) || !isChild(place)) {
            return no(-2);
        }
        int home = line.indexOf(child);
        line = shifted(line, child, place);
        return home;
    }

    public int turn() {
        Collections.reverse(line);
        return line.isEmpty() ? NONE : line.get(0);
    }

    public int leaves() {
        if (children.isEmpty()) {
            return no(-5);
        }
        int last = children.size() - 1;
        children.remove(last);
        line.remove(Integer.valueOf(last));
        wishes.removeIf(w -> w.p == last || w.q == last);
        return last;
    }

    private int draw(int n) {
        seed = (int) (seed * 1103515245L + 12345L);
        return (int) ((seed & 0xFFFFFFFFL) >> 16) % n;
    }

    public int term(int n) {
        if (n < 1 || n > 60) {
            return no(-2);
        }
        if (children.isEmpty() || counts.isEmpty()) {
            return no(-5);
        }
        int sum = 0;
        for (int i = 0; i < n; i++) {
            int a = draw(children.size());
            int b = draw(children.size());
            if (a != b) {
                line = swapped(line, a, b);
            }
            sum += value(draw(counts.size()));
        }
        return sum;
    }

    public int seed(int v) {
        int ahead = seed;
        seed = v;
        return ahead;
    }

    private Image kept() {
        return new Image(new ArrayList<>(children), new ArrayList<>(line), new ArrayList<>(counts),
            new ArrayList<>(wishes), seed);
    }

    private void restore(Image from) {
        children = new ArrayList<>(from.children);
        line = new ArrayList<>(from.line);
        counts = new ArrayList<>(from.counts);
        wishes = new ArrayList<>(from.wishes);
        seed = from.seed;
    }

    public int image() {
        image = kept();
        return 1;
    }

    public int back() {
        if (image == null) {
            return no(-5);
        }
        restore(image);
        for (int s = 0; s < 8; s++) {
            if (shelves[s] instanceof Integer number && number >= counts.size()) {
                shelves[s] = null;
            }
        }
        return 1;
    }

    public int status(int what) {
        int full = (int) Arrays.stream(shelves).filter(o -> o != null).count();
        int[] first = {children.size(), counts.size(), wishes.size(), wishes.stream().mapToInt(w -> w.worth).sum(),
            children.stream().mapToInt(c -> c.strong).sum(), tape.length(), seed, full};
        if (what >= 0 && what < 8) {
            return first[what];
        }
        return what >= 12 && what <= 16 ? refused[what - 10] : NONE;
    }
}
