/**
 * Children along a wall who are counted off into teams. The numbered promises of the document
 * say what every method answers; a refused call answers a number of -2 to -6 and changes
 * nothing but how many refusals there were.
 */
public final class OneTwoOneTwo {
    public static final int NONE = -1;

    private static final int BAD = -2;
    private static final int OTHER = -3;
    private static final int NOTHING = -4;
    private static final int STUCK = -5;
    private static final int FULL = -6;
    private static final int FINE = 0;
    private static final int REFUSAL_SORTS = 5;

    private static final int COUNT = 0;
    private static final int BACK = 1;
    private static final int JUMP = 2;
    private static final int SLIP = 3;
    private static final int TURNED = 4;
    private static final int LATE = 5;
    private static final int[] UNDER = {NONE, COUNT, COUNT, COUNT, BACK, SLIP};

    private static final int MAX_CHILDREN = 14;
    private static final int MAX_STRONG = 99;
    private static final int MAX_STEP = 9;
    private static final int MAX_COUNTS = 6;
    private static final int MIN_TEAMS = 2;
    private static final int MAX_TEAMS = 5;
    private static final int MAX_SLIP = 13;
    private static final int MAX_WISHES = 20;
    private static final int MAX_WORTH = 99;
    private static final int MAX_TAPE = 250;
    private static final int MAX_SHELVES = 8;
    private static final int MAX_ELEMENTS = 40;
    private static final int MAX_ROUND = 20;
    private static final int MAX_DRAWS = 60;
    private static final int MAX_VALUE_ASKED = 9999;
    private static final int MAX_CHILDREN_FOR_MOST = 8;

    private final Yard now = new Yard();
    private final Yard kept = new Yard();
    /** Where things are tried out that may come to nothing. */
    private final Yard draft = new Yard();
    private final Finder finder = new Finder(now);
    private final Tape tape = new Tape();
    private final Shelf[] shelves = new Shelf[MAX_SHELVES];
    private final int[] refusals = new int[REFUSAL_SORTS];
    private boolean anythingKept = false;

    public OneTwoOneTwo() {
        for (int s = 0; s < MAX_SHELVES; s++) {
            shelves[s] = new Shelf();
        }
    }

    // ---- shelves

    public int row(int s, int sort, int n) {
        if (!isShelf(s) || !within(sort, Shelf.BYTES, Shelf.BOOLEANS) || !within(n, 0, MAX_ELEMENTS)) {
            return refuse(BAD);
        }
        shelves[s].takeRow(sort, n);
        return 1;
    }

    public int set(int s, int i, long v) {
        int trouble = rowTrouble(s);
        if (trouble != FINE) {
            return refuse(trouble);
        }
        if (!shelves[s].hasElement(i)) {
            return refuse(BAD);
        }
        shelves[s].put(i, v);
        return 1;
    }

    public int copy(int p, int q, int i, int j, int n) {
        int trouble = copyTrouble(p, q);
        if (trouble != FINE) {
            return refuse(trouble);
        }
        if (!shelves[p].hasStretch(i, n) || !shelves[q].hasStretch(j, n)) {
            return refuse(BAD);
        }
        System.arraycopy(shelves[p].elements, i, shelves[q].elements, j, n);
        return n;
    }

    public long element(int s, int i) {
        if (rowTrouble(s) != FINE || !shelves[s].hasElement(i)) {
            return 0;
        }
        return shelves[s].elements[i];
    }

    public int holds(int s) {
        return isShelf(s) ? shelves[s].thing : NONE;
    }

    public int show(int s, int count) {
        if (!isShelf(s) || (count != NONE && !now.hasCount(count))) {
            return refuse(BAD);
        }
        if (count == NONE) {
            shelves[s].takeNothing();
        } else {
            shelves[s].takeCount(count);
        }
        return 1;
    }

    public int says(int s, int kind) {
        if (!isShelf(s) || !within(kind, COUNT, LATE)) {
            return refuse(BAD);
        }
        if (shelves[s].isRow()) {
            return refuse(OTHER);
        }
        int count = shelves[s].countNumber();
        if (!now.hasCount(count)) {
            return refuse(NOTHING);
        }
        if (!isOfKind(now.kinds[count], kind)) {
            return refuse(OTHER);
        }
        return saying(count, kind);
    }

    // ---- what the yard is made of

    public int child(int strong, int step) {
        if (!within(strong, 1, MAX_STRONG) || !within(step, 0, MAX_STEP)) {
            return refuse(BAD);
        }
        if (now.children >= MAX_CHILDREN) {
            return refuse(FULL);
        }
        return now.addChild(strong, step);
    }

    public int count(int kind, int n, int a) {
        if (!within(kind, COUNT, LATE) || !within(n, MIN_TEAMS, MAX_TEAMS) || !within(a, 0, MAX_SLIP)) {
            return refuse(BAD);
        }
        if (now.counts >= MAX_COUNTS) {
            return refuse(FULL);
        }
        return now.addCount(kind, n, a);
    }

    public int wish(int child, int other, boolean together, int worth) {
        if (!areTwo(child, other) || !within(worth, 1, MAX_WORTH)) {
            return refuse(BAD);
        }
        if (now.wishes >= MAX_WISHES) {
            return refuse(FULL);
        }
        return now.addWish(child, other, together, worth);
    }

    public int content() {
        int ahead = now.wishes;
        now.wishes = 0;
        return ahead;
    }

    public int feed(int letter) {
        if (!within(letter, 0, 255)) {
            return refuse(BAD);
        }
        if (tape.size >= MAX_TAPE) {
            return refuse(FULL);
        }
        return tape.put(letter);
    }

    public int wipe() {
        return tape.clear();
    }

    public int yard() {
        draft.takeOver(now);
        int answer = tape.readOnto(draft);
        tape.clear();
        if (answer < 0) {
            refuse(BAD);
        } else {
            now.takeOver(draft);
        }
        return answer;
    }

    // ---- what there is

    public int childOf(int child, int what) {
        if (!now.hasChild(child)) {
            return refuse(BAD);
        }
        switch (what) {
            case 0:
                return now.strong[child];
            case 1:
                return now.step[child];
            case 2:
                return now.where[child];
            case 3:
                return now.wishesOf(child);
            default:
                return refuse(BAD);
        }
    }

    public int countOf(int count, int what) {
        if (!now.hasCount(count)) {
            return refuse(BAD);
        }
        switch (what) {
            case 0:
                return now.kinds[count];
            case 1:
                return now.teams[count];
            case 2:
                return now.slips[count];
            default:
                return refuse(BAD);
        }
    }

    public int wishOf(int i, int what) {
        if (!now.hasWish(i)) {
            return refuse(BAD);
        }
        switch (what) {
            case 0:
                return now.firsts[i];
            case 1:
                return now.seconds[i];
            case 2:
                return now.together[i];
            case 3:
                return now.worths[i];
            default:
                return refuse(BAD);
        }
    }

    public int at(int place) {
        return now.hasPlace(place) ? now.who[place] : refuse(BAD);
    }

    // ---- counted off

    public int team(int count, int child) {
        if (!now.hasCount(count) || !now.hasChild(child)) {
            return refuse(BAD);
        }
        return now.sideOf(count, child);
    }

    public int members(int count, int team) {
        if (!now.hasTeam(count, team)) {
            return refuse(BAD);
        }
        return now.bitsOfSide(count, team);
    }

    public int strength(int count, int team) {
        if (!now.hasTeam(count, team)) {
            return refuse(BAD);
        }
        return now.strongOfSide(count, team);
    }

    public int heaviest(int count) {
        if (!now.hasCount(count)) {
            return refuse(BAD);
        }
        int found = 0;
        for (int team = 1; team < now.teams[count]; team++) {
            if (now.strongOfSide(count, team) > now.strongOfSide(count, found)) {
                found = team;
            }
        }
        return found;
    }

    public int turned(int count) {
        if (!now.hasCount(count)) {
            return refuse(BAD);
        }
        draft.takeOver(now);
        draft.turnAbout();
        return draft.valueBy(count);
    }

    public int unlike(int count, int other) {
        if (!now.hasCount(count) || !now.hasCount(other)) {
            return refuse(BAD);
        }
        int found = 0;
        for (int c = 0; c < now.children; c++) {
            if (now.sideOf(count, c) != now.sideOf(other, c)) {
                found++;
            }
        }
        return found;
    }

    public int unmet(int count) {
        if (!now.hasCount(count)) {
            return refuse(BAD);
        }
        int found = NONE;
        for (int i = 0; i < now.wishes; i++) {
            boolean greater = found == NONE || now.worths[i] > now.worths[found];
            if (greater && !now.isMet(count, i)) {
                found = i;
            }
        }
        return found;
    }

    public int friendsOf(int child) {
        return now.hasChild(child) ? now.hangingWith(child) : refuse(BAD);
    }

    public int groups() {
        int found = 0;
        int seen = 0;
        for (int c = 0; c < now.children; c++) {
            if ((seen >> c & 1) == 0) {
                found++;
                seen |= now.hangingWith(c);
            }
        }
        return found;
    }

    public int conflict() {
        for (int i = 0; i < now.wishes; i++) {
            if (now.together[i] == 0 && (now.hangingWith(now.firsts[i]) >> now.seconds[i] & 1) == 1) {
                return i;
            }
        }
        return NONE;
    }

    public int changes(int count, int v) {
        if (!now.hasCount(count) || !within(v, 0, MAX_VALUE_ASKED)) {
            return refuse(BAD);
        }
        return finder.fewestChanges(count, v);
    }

    public int place(int child) {
        return now.hasChild(child) ? finder.bestPlace(child) : refuse(BAD);
    }

    public int value(int count) {
        return now.hasCount(count) ? now.valueBy(count) : refuse(BAD);
    }

    public int met(int count, int i) {
        if (!now.hasCount(count) || !now.hasWish(i)) {
            return refuse(BAD);
        }
        return now.isMet(count, i) ? 1 : 0;
    }

    // ---- what comes of it

    public int best(int what) {
        if (!within(what, 0, 2)) {
            return refuse(BAD);
        }
        if (now.counts == 0) {
            return refuse(STUCK);
        }
        int found = 0;
        for (int c = 1; c < now.counts; c++) {
            if (merit(c, what) > merit(found, what)) {
                found = c;
            }
        }
        return found;
    }

    public int even(int count) {
        return now.hasCount(count) ? now.unevenness(count) : refuse(BAD);
    }

    public int change(int count) {
        return now.hasCount(count) ? finder.bestChange(count) : refuse(BAD);
    }

    public int far(int count, int child, int other) {
        if (!now.hasCount(count) || !areTwo(child, other)) {
            return refuse(BAD);
        }
        return finder.shortestMove(count, child, other);
    }

    public int most(int count) {
        if (!now.hasCount(count)) {
            return refuse(BAD);
        }
        if (now.children > MAX_CHILDREN_FOR_MOST) {
            return refuse(STUCK);
        }
        return finder.greatestValue(count);
    }

    public int always(int child) {
        if (!now.hasChild(child)) {
            return refuse(BAD);
        }
        int found = 0;
        for (int other = 0; other < now.children; other++) {
            if (now.timesTogether(child, other) == now.counts) {
                found |= 1 << other;
            }
        }
        return found;
    }

    public int often(int child, int other) {
        return areTwo(child, other) ? now.timesTogether(child, other) : refuse(BAD);
    }

    public int safe(int child, int other) {
        return areTwo(child, other) ? finder.safestPlace(child, other) : refuse(BAD);
    }

    // ---- counting out

    public int out(int k, int i) {
        if (!within(k, 1, MAX_ROUND) || !now.hasPlace(i)) {
            return refuse(BAD);
        }
        finder.countOut(k);
        return finder.leaving[i];
    }

    public int outAt(int k, int child) {
        if (!within(k, 1, MAX_ROUND) || !now.hasChild(child)) {
            return refuse(BAD);
        }
        finder.countOut(k);
        for (int i = 0; i < now.children; i++) {
            if (finder.leaving[i] == child) {
                return i;
            }
        }
        return NONE;
    }

    public int stays(int child) {
        if (!now.hasChild(child)) {
            return refuse(BAD);
        }
        for (int k = 1; k <= MAX_ROUND; k++) {
            finder.countOut(k);
            if (finder.leaving[now.children - 1] == child) {
                return k;
            }
        }
        return NONE;
    }

    // ---- mornings told

    public int fits(int s) {
        int trouble = toldTrouble(s, now.children);
        if (trouble != FINE) {
            return refuse(trouble);
        }
        int found = 0;
        for (int c = 0; c < now.counts; c++) {
            if (now.unlikeTold(c, shelves[s].elements) == 0) {
                found |= 1 << c;
            }
        }
        return found;
    }

    public int moved(int count, int s) {
        int trouble = now.hasCount(count) ? toldTrouble(s, now.children) : BAD;
        if (trouble != FINE) {
            return refuse(trouble);
        }
        return finder.firstChangeToFit(count, shelves[s].elements);
    }

    public int miscounted(int s) {
        int trouble = toldTrouble(s, now.children);
        if (trouble == FINE && now.counts == 0) {
            trouble = STUCK;
        }
        if (trouble != FINE) {
            return refuse(trouble);
        }
        int least = now.children;
        for (int c = 0; c < now.counts; c++) {
            least = Math.min(least, now.unlikeTold(c, shelves[s].elements));
        }
        return least;
    }

    // ---- changes told

    public int judge(int s, int n) {
        int trouble = toldTrouble(s, n);
        return trouble == FINE ? firstWrong(s, n) : refuse(trouble);
    }

    public int behind(int s, int n, int count) {
        int trouble = now.hasCount(count) ? toldTrouble(s, n) : BAD;
        if (trouble != FINE) {
            return refuse(trouble);
        }
        if (firstWrong(s, n) != NONE) {
            return refuse(STUCK);
        }
        return draft.valueBy(count);
    }

    public int done(int s, int n) {
        int trouble = toldTrouble(s, n);
        if (trouble != FINE) {
            return refuse(trouble);
        }
        if (firstWrong(s, n) != NONE) {
            return refuse(STUCK);
        }
        now.takeOver(draft);
        return n;
    }

    // ---- in truth

    public int swap(int child, int other) {
        if (!now.hasChild(child) || !now.hasChild(other)) {
            return refuse(BAD);
        }
        if (child == other) {
            return 0;
        }
        if (!now.inReach(child, other)) {
            return refuse(STUCK);
        }
        now.exchange(child, other);
        return 1;
    }

    public int move(int child, int place) {
        if (!now.hasChild(child) || !now.hasPlace(place)) {
            return refuse(BAD);
        }
        int home = now.where[child];
        now.shift(child, place);
        return home;
    }

    public int turn() {
        now.turnAbout();
        return now.children == 0 ? NONE : now.who[0];
    }

    public int leaves() {
        if (now.children == 0) {
            return refuse(STUCK);
        }
        now.dropLast();
        return now.children;
    }

    public int term(int n) {
        if (!within(n, 1, MAX_DRAWS)) {
            return refuse(BAD);
        }
        if (now.children == 0 || now.counts == 0) {
            return refuse(STUCK);
        }
        int sum = 0;
        for (int i = 0; i < n; i++) {
            int child = now.draw(now.children);
            int other = now.draw(now.children);
            now.exchange(child, other);
            sum += now.valueBy(now.draw(now.counts));
        }
        return sum;
    }

    public int seed(int v) {
        int ahead = now.seed;
        now.seed = v;
        return ahead;
    }

    public int image() {
        kept.takeOver(now);
        anythingKept = true;
        return 1;
    }

    public int back() {
        if (!anythingKept) {
            return refuse(STUCK);
        }
        now.takeOver(kept);
        for (int s = 0; s < MAX_SHELVES; s++) {
            if (shelves[s].isCount() && !now.hasCount(shelves[s].countNumber())) {
                shelves[s].takeNothing();
            }
        }
        return 1;
    }

    public int status(int what) {
        switch (what) {
            case 0:
                return now.children;
            case 1:
                return now.counts;
            case 2:
                return now.wishes;
            case 3:
                return now.allWorths();
            case 4:
                return now.allStrong();
            case 5:
                return tape.size;
            case 6:
                return now.seed;
            case 7:
                return shelvesInUse();
            default:
                return within(what, 12, 11 + REFUSAL_SORTS) ? refusals[what - 12] : NONE;
        }
    }

    // ---- what the face leans on

    private static boolean within(int v, int least, int greatest) {
        return v >= least && v <= greatest;
    }

    private static boolean isShelf(int s) {
        return within(s, 0, MAX_SHELVES - 1);
    }

    private static boolean isOfKind(int kind, int wanted) {
        return wanted == COUNT || kind == wanted || UNDER[kind] == wanted;
    }

    private boolean areTwo(int child, int other) {
        return now.hasChild(child) && now.hasChild(other) && child != other;
    }

    private int refuse(int why) {
        int sort = BAD - why;
        if (within(sort, 0, REFUSAL_SORTS - 1)) {
            refusals[sort]++;
        }
        return why;
    }

    private int rowTrouble(int s) {
        if (!isShelf(s)) {
            return BAD;
        }
        if (shelves[s].isCount()) {
            return OTHER;
        }
        return shelves[s].isRow() ? FINE : NOTHING;
    }

    private int copyTrouble(int p, int q) {
        if (!isShelf(p) || !isShelf(q)) {
            return BAD;
        }
        if (shelves[p].isCount() || shelves[q].isCount()) {
            return OTHER;
        }
        if (!shelves[p].isRow() || !shelves[q].isRow()) {
            return NOTHING;
        }
        return shelves[p].thing == shelves[q].thing ? FINE : OTHER;
    }

    /** Why the first n elements of a shelf's row can't be taken as told. */
    private int toldTrouble(int s, int n) {
        if (!within(n, 0, MAX_ELEMENTS)) {
            return BAD;
        }
        int trouble = rowTrouble(s);
        if (trouble == FINE && shelves[s].length < n) {
            return BAD;
        }
        return trouble;
    }

    /** Leaves the row as it is behind the changes in the draft, if none is wrong. */
    private int firstWrong(int s, int n) {
        draft.takeOver(now);
        for (int i = 0; i < n; i++) {
            if (!draft.changeAsTold(shelves[s].elements[i])) {
                return i;
            }
        }
        return NONE;
    }

    private int saying(int count, int kind) {
        int last = now.children - 1;
        switch (kind) {
            case BACK:
                return last < 0 ? NONE : now.sideAt(count, 0);
            case JUMP:
                return now.evenPlaces();
            case SLIP:
            case LATE:
                return within(now.slips[count], 1, last) ? 1 : 0;
            case TURNED:
                return last < 0 ? NONE : now.sideAt(count, last);
            default:
                return now.teams[count];
        }
    }

    private int merit(int count, int what) {
        if (what == 2) {
            return -now.unevenness(count);
        }
        int value = now.valueBy(count);
        return what == 0 ? value : -value;
    }

    private int shelvesInUse() {
        int found = 0;
        for (int s = 0; s < MAX_SHELVES; s++) {
            if (shelves[s].thing != NONE) {
                found++;
            }
        }
        return found;
    }

    /** All that an image keeps: the children and their row, the counts, the wishes, the seed. */
    private static final class Yard {
        int children = 0;
        final int[] strong = new int[MAX_CHILDREN];
        final int[] step = new int[MAX_CHILDREN];
        final int[] where = new int[MAX_CHILDREN];
        final int[] who = new int[MAX_CHILDREN];
        int counts = 0;
        final int[] kinds = new int[MAX_COUNTS];
        final int[] teams = new int[MAX_COUNTS];
        final int[] slips = new int[MAX_COUNTS];
        int wishes = 0;
        final int[] firsts = new int[MAX_WISHES];
        final int[] seconds = new int[MAX_WISHES];
        /** 1 for a wish to be together, 0 for one to be parted. */
        final int[] together = new int[MAX_WISHES];
        final int[] worths = new int[MAX_WISHES];
        int seed = 1;

        void takeOver(Yard from) {
            children = from.children;
            System.arraycopy(from.strong, 0, strong, 0, MAX_CHILDREN);
            System.arraycopy(from.step, 0, step, 0, MAX_CHILDREN);
            System.arraycopy(from.where, 0, where, 0, MAX_CHILDREN);
            System.arraycopy(from.who, 0, who, 0, MAX_CHILDREN);
            counts = from.counts;
            System.arraycopy(from.kinds, 0, kinds, 0, MAX_COUNTS);
            System.arraycopy(from.teams, 0, teams, 0, MAX_COUNTS);
            System.arraycopy(from.slips, 0, slips, 0, MAX_COUNTS);
            wishes = from.wishes;
            System.arraycopy(from.firsts, 0, firsts, 0, MAX_WISHES);
            System.arraycopy(from.seconds, 0, seconds, 0, MAX_WISHES);
            System.arraycopy(from.together, 0, together, 0, MAX_WISHES);
            System.arraycopy(from.worths, 0, worths, 0, MAX_WISHES);
            seed = from.seed;
        }

        boolean hasChild(int child) {
            return within(child, 0, children - 1);
        }

        boolean hasPlace(int p) {
            return within(p, 0, children - 1);
        }

        boolean hasCount(int count) {
            return within(count, 0, counts - 1);
        }

        boolean hasTeam(int count, int side) {
            return hasCount(count) && within(side, 0, teams[count] - 1);
        }

        boolean hasWish(int i) {
            return within(i, 0, wishes - 1);
        }

        /** Its callers have looked whether there is room, as those of the two below have. */
        int addChild(int itsStrong, int itsStep) {
            int child = children;
            strong[child] = itsStrong;
            step[child] = itsStep;
            where[child] = child;
            who[child] = child;
            children++;
            return child;
        }

        int addCount(int kind, int n, int a) {
            int count = counts;
            kinds[count] = kind;
            teams[count] = n;
            slips[count] = a;
            counts++;
            return count;
        }

        int addWish(int first, int second, boolean asOne, int worth) {
            firsts[wishes] = first;
            seconds[wishes] = second;
            together[wishes] = asOne ? 1 : 0;
            worths[wishes] = worth;
            wishes++;
            return wishes;
        }

        int wishesOf(int child) {
            int found = 0;
            for (int i = 0; i < wishes; i++) {
                if (firsts[i] == child || seconds[i] == child) {
                    found++;
                }
            }
            return found;
        }

        int allWorths() {
            int sum = 0;
            for (int i = 0; i < wishes; i++) {
                sum += worths[i];
            }
            return sum;
        }

        int allStrong() {
            int sum = 0;
            for (int c = 0; c < children; c++) {
                sum += strong[c];
            }
            return sum;
        }

        // ---- the row

        private void stand(int child, int p) {
            where[child] = p;
            who[p] = child;
        }

        void exchange(int child, int other) {
            int home = where[child];
            stand(child, where[other]);
            stand(other, home);
        }

        void shift(int child, int target) {
            int home = where[child];
            for (int p = home; p < target; p++) {
                stand(who[p + 1], p);
            }
            for (int p = home; p > target; p--) {
                stand(who[p - 1], p);
            }
            stand(child, target);
        }

        void turnAbout() {
            for (int p = 0; p < children / 2; p++) {
                exchange(who[p], who[children - 1 - p]);
            }
        }

        void dropLast() {
            int child = children - 1;
            shift(child, child);
            children = child;
            int left = 0;
            for (int i = 0; i < wishes; i++) {
                if (firsts[i] != child && seconds[i] != child) {
                    firsts[left] = firsts[i];
                    seconds[left] = seconds[i];
                    together[left] = together[i];
                    worths[left] = worths[i];
                    left++;
                }
            }
            wishes = left;
        }

        boolean inReach(int child, int other) {
            int apart = Math.abs(where[child] - where[other]);
            return apart <= step[child] && apart <= step[other];
        }

        boolean changeAsTold(long told) {
            if (told < 0 || told >= 100L * MAX_CHILDREN) {
                return false;
            }
            int child = (int) told / 100;
            int other = (int) told % 100;
            if (!hasChild(child) || !hasChild(other) || child == other || !inReach(child, other)) {
                return false;
            }
            exchange(child, other);
            return true;
        }

        int draw(int n) {
            seed = seed * 1103515245 + 12345;
            return n > 0 ? (seed >>> 16) % n : 0;
        }

        // ---- counting off

        int evenPlaces() {
            return (children + 1) / 2;
        }

        int sideAt(int count, int p) {
            int by = teams[count];
            if (by < MIN_TEAMS) {
                return 0;
            }
            boolean saidTwice = slips[count] > 0 && p >= slips[count];
            switch (kinds[count]) {
                case BACK:
                    return (children - 1 - p) % by;
                case JUMP:
                    return (p % 2 == 0 ? p / 2 : evenPlaces() + p / 2) % by;
                case SLIP:
                    return saidTwice ? (p - 1) % by : p % by;
                case TURNED:
                    return by - 1 - (children - 1 - p) % by;
                case LATE:
                    return saidTwice ? p % by : (p + 1) % by;
                default:
                    return p % by;
            }
        }

        int sideOf(int count, int child) {
            return sideAt(count, where[child]);
        }

        boolean sameSide(int count, int child, int other) {
            return sideAt(count, where[child]) == sideAt(count, where[other]);
        }

        boolean isMet(int count, int i) {
            int first = sideAt(count, where[firsts[i]]);
            int second = sideAt(count, where[seconds[i]]);
            return (first == second) == (together[i] == 1);
        }

        int valueBy(int count) {
            int sum = 0;
            for (int i = 0; i < wishes; i++) {
                if (isMet(count, i)) {
                    sum += worths[i];
                }
            }
            return sum;
        }

        int valueByAll() {
            int sum = 0;
            for (int c = 0; c < counts; c++) {
                sum += valueBy(c);
            }
            return sum;
        }

        int bitsOfSide(int count, int side) {
            int found = 0;
            for (int c = 0; c < children; c++) {
                if (sideOf(count, c) == side) {
                    found |= 1 << c;
                }
            }
            return found;
        }

        int strongOfSide(int count, int side) {
            int sum = 0;
            for (int c = 0; c < children; c++) {
                if (sideOf(count, c) == side) {
                    sum += strong[c];
                }
            }
            return sum;
        }

        int unevenness(int count) {
            int greatest = strongOfSide(count, 0);
            int least = greatest;
            for (int side = 1; side < teams[count]; side++) {
                int sum = strongOfSide(count, side);
                greatest = Math.max(greatest, sum);
                least = Math.min(least, sum);
            }
            return greatest - least;
        }

        int timesTogether(int child, int other) {
            int found = 0;
            for (int c = 0; c < counts; c++) {
                if (sameSide(c, child, other)) {
                    found++;
                }
            }
            return found;
        }

        int unlikeTold(int count, long[] told) {
            int found = 0;
            for (int c = 0; c < children; c++) {
                if (told[c] != sideOf(count, c)) {
                    found++;
                }
            }
            return found;
        }

        /** Each round but the last adds a child, so there are no more rounds than children. */
        int hangingWith(int child) {
            int set = 1 << child;
            for (int round = 1; round < children; round++) {
                int ahead = set;
                for (int i = 0; i < wishes; i++) {
                    int two = 1 << firsts[i] | 1 << seconds[i];
                    if (together[i] == 1 && (set & two) != 0) {
                        set |= two;
                    }
                }
                if (set == ahead) {
                    break;
                }
            }
            return set;
        }
    }

    /** What would be, if the row were another; whatever it tries in the yard it takes back. */
    private static final class Finder {
        final Yard yard;
        /** The team of each child by the count that is looked at: a change swaps two of them. */
        final int[] sides = new int[MAX_CHILDREN];
        final int[] room = new int[MAX_TEAMS];
        final int[] taken = new int[MAX_TEAMS];
        final int[] ring = new int[MAX_CHILDREN];
        final int[] leaving = new int[MAX_CHILDREN];

        Finder(Yard looked) {
            yard = looked;
        }

        private void takeSides(int count) {
            for (int c = 0; c < yard.children; c++) {
                sides[c] = yard.sideOf(count, c);
            }
        }

        private void exchangeSides(int child, int other) {
            int side = sides[child];
            sides[child] = sides[other];
            sides[other] = side;
        }

        private int valueOfSides() {
            int sum = 0;
            for (int i = 0; i < yard.wishes; i++) {
                boolean asOne = sides[yard.firsts[i]] == sides[yard.seconds[i]];
                if (asOne == (yard.together[i] == 1)) {
                    sum += yard.worths[i];
                }
            }
            return sum;
        }

        private int valueWithChange(int child, int other) {
            exchangeSides(child, other);
            int found = valueOfSides();
            exchangeSides(child, other);
            return found;
        }

        int bestChange(int count) {
            takeSides(count);
            int greatest = valueOfSides();
            int found = NONE;
            for (int a = 0; a < yard.children; a++) {
                for (int b = a + 1; b < yard.children; b++) {
                    int with = yard.inReach(a, b) ? valueWithChange(a, b) : 0;
                    if (with > greatest) {
                        greatest = with;
                        found = 100 * a + b;
                    }
                }
            }
            return found;
        }

        int fewestChanges(int count, int v) {
            takeSides(count);
            if (valueOfSides() >= v) {
                return 0;
            }
            if (yard.allWorths() < v) {
                return NONE;
            }
            if (oneChangeReaches(v, 0, 1)) {
                return 1;
            }
            return twoChangesReach(v) ? 2 : NONE;
        }

        /** Tries the twos from (from, with) on; two of one team would change nothing. */
        private boolean oneChangeReaches(int v, int from, int with) {
            for (int a = from; a < yard.children; a++) {
                for (int b = a == from ? with : a + 1; b < yard.children; b++) {
                    if (sides[a] != sides[b] && valueWithChange(a, b) >= v) {
                        return true;
                    }
                }
            }
            return false;
        }

        /**
         * The second two come behind the first in their order: twos without a child in common
         * may be changed in either order, and both ways round of three children come up so.
         */
        private boolean twoChangesReach(int v) {
            for (int a = 0; a < yard.children; a++) {
                for (int b = a + 1; b < yard.children; b++) {
                    if (sides[a] != sides[b]) {
                        exchangeSides(a, b);
                        boolean reached = oneChangeReaches(v, a, b + 1);
                        exchangeSides(a, b);
                        if (reached) {
                            return true;
                        }
                    }
                }
            }
            return false;
        }

        int firstChangeToFit(int count, long[] told) {
            for (int a = 0; a < yard.children; a++) {
                for (int b = a + 1; b < yard.children; b++) {
                    yard.exchange(a, b);
                    boolean fitting = yard.unlikeTold(count, told) == 0;
                    yard.exchange(a, b);
                    if (fitting) {
                        return 100 * a + b;
                    }
                }
            }
            return NONE;
        }

        int bestPlace(int child) {
            int home = yard.where[child];
            int greatest = NONE;
            int found = home;
            for (int p = 0; p < yard.children; p++) {
                yard.shift(child, p);
                int sum = yard.valueByAll();
                if (sum > greatest) {
                    greatest = sum;
                    found = p;
                }
            }
            yard.shift(child, home);
            return found;
        }

        int safestPlace(int child, int other) {
            int home = yard.where[other];
            int greatest = NONE;
            int found = home;
            for (int p = 0; p < yard.children; p++) {
                yard.shift(other, p);
                int times = yard.timesTogether(child, other);
                if (times > greatest) {
                    greatest = times;
                    found = p;
                }
            }
            yard.shift(other, home);
            return found;
        }

        int shortestMove(int count, int child, int other) {
            int one = shortestMoveOf(count, child, other);
            int two = shortestMoveOf(count, other, child);
            if (one == NONE || two == NONE) {
                return Math.max(one, two);
            }
            return Math.min(one, two);
        }

        private int shortestMoveOf(int count, int mover, int other) {
            int home = yard.where[mover];
            int least = NONE;
            for (int p = 0; p < yard.children; p++) {
                yard.shift(mover, p);
                int way = Math.abs(p - home);
                if (yard.sameSide(count, mover, other) && (least == NONE || way < least)) {
                    least = way;
                }
            }
            yard.shift(mover, home);
            return least;
        }

        /** VALUE hangs on the teams alone: so it is enough to fill the teams in all ways. */
        int greatestValue(int count) {
            for (int side = 0; side < MAX_TEAMS; side++) {
                room[side] = 0;
                taken[side] = 0;
            }
            for (int p = 0; p < yard.children; p++) {
                room[yard.sideAt(count, p)]++;
            }
            return greatestFrom(0);
        }

        private int greatestFrom(int child) {
            if (child >= yard.children || child >= MAX_CHILDREN_FOR_MOST) {
                return valueOfSides();
            }
            int greatest = 0;
            for (int side = 0; side < MAX_TEAMS; side++) {
                if (taken[side] < room[side] && !isLikeOneAhead(side)) {
                    taken[side]++;
                    sides[child] = side;
                    greatest = Math.max(greatest, greatestFrom(child + 1));
                    taken[side]--;
                }
            }
            return greatest;
        }

        /** Of several empty teams of one size it doesn't matter which one is begun. */
        private boolean isLikeOneAhead(int side) {
            for (int ahead = 0; ahead < side; ahead++) {
                if (taken[side] == 0 && taken[ahead] == 0 && room[ahead] == room[side]) {
                    return true;
                }
            }
            return false;
        }

        void countOut(int k) {
            System.arraycopy(yard.who, 0, ring, 0, MAX_CHILDREN);
            int next = 0;
            for (int left = yard.children; left > 0; left--) {
                next = (next + k - 1) % left;
                leaving[yard.children - left] = ring[next];
                for (int p = next; p + 1 < left; p++) {
                    ring[p] = ring[p + 1];
                }
            }
        }
    }

    /** One shelf; its elements are made once and serve every row that comes to stand there. */
    private static final class Shelf {
        static final int BYTES = 0;
        static final int SHORTS = 1;
        static final int INTS = 2;
        static final int BOOLEANS = 4;
        static final int COUNTS_FROM = 10;

        /** NONE, a row's sort, or COUNTS_FROM and a count's number. */
        int thing = NONE;
        int length = 0;
        final long[] elements = new long[MAX_ELEMENTS];

        boolean isRow() {
            return within(thing, BYTES, BOOLEANS);
        }

        boolean isCount() {
            return thing >= COUNTS_FROM;
        }

        int countNumber() {
            return isCount() ? thing - COUNTS_FROM : NONE;
        }

        void takeNothing() {
            thing = NONE;
            length = 0;
        }

        void takeCount(int number) {
            thing = COUNTS_FROM + number;
            length = 0;
        }

        void takeRow(int sort, int n) {
            thing = sort;
            length = n;
            for (int i = 0; i < MAX_ELEMENTS; i++) {
                elements[i] = 0;
            }
        }

        boolean hasElement(int i) {
            return within(i, 0, length - 1);
        }

        boolean hasStretch(int from, int n) {
            return within(from, 0, length) && within(n, 0, length - from);
        }

        void put(int i, long v) {
            switch (thing) {
                case BYTES:
                    elements[i] = (byte) v;
                    break;
                case SHORTS:
                    elements[i] = (short) v;
                    break;
                case INTS:
                    elements[i] = (int) v;
                    break;
                case BOOLEANS:
                    elements[i] = v != 0 ? 1 : 0;
                    break;
                default:
                    elements[i] = v;
                    break;
            }
        }
    }

    /** The tape and the reading of it, one token after the other. */
    private static final class Tape {
        private static final int FAULT_FROM = -20;
        private static final int MAX_DIGITS = 2;

        private static final int END = 0;
        private static final int WORD = 1;
        private static final int NUMBER = 2;
        private static final int SIGN = 3;
        private static final int STRANGE = 4;

        final int[] bytes = new int[MAX_TAPE];
        int size = 0;
        /** The token that was read last: where reading stops, its start is the fault. */
        int token = END;
        int start = 0;
        int end = 0;

        int put(int letter) {
            bytes[size] = letter;
            size++;
            return size;
        }

        int clear() {
            int ahead = size;
            size = 0;
            return ahead;
        }

        /** How many statements came to the yard, or FAULT_FROM less the fault. */
        int readOnto(Yard yard) {
            end = 0;
            for (int statements = 1; statements <= MAX_TAPE; statements++) {
                if (!readStatement(yard)) {
                    return FAULT_FROM - start;
                }
                nextToken();
                if (token == END) {
                    return statements;
                }
                if (token != SIGN) {
                    return FAULT_FROM - start;
                }
            }
            return FAULT_FROM - size;
        }

        private void nextToken() {
            start = end;
            while (start < size && bytes[start] == ' ') {
                start++;
            }
            end = start;
            token = start < size ? tokenOf(bytes[start]) : END;
            if (token == WORD || token == NUMBER) {
                while (end < size && tokenOf(bytes[end]) == token) {
                    end++;
                }
            } else if (token != END) {
                end++;
            }
        }

        private static int tokenOf(int letter) {
            if (letter >= 'a' && letter <= 'z') {
                return WORD;
            }
            if (letter >= '0' && letter <= '9') {
                return NUMBER;
            }
            return letter == ';' ? SIGN : STRANGE;
        }

        private boolean isWord(String word) {
            if (token != WORD || end - start != word.length()) {
                return false;
            }
            for (int i = 0; i < word.length(); i++) {
                if (bytes[start + i] != word.charAt(i)) {
                    return false;
                }
            }
            return true;
        }

        /** The number that is next, or NONE if none of least to greatest is. */
        private int nextNumber(int least, int greatest) {
            nextToken();
            if (token != NUMBER || end - start > MAX_DIGITS) {
                return NONE;
            }
            int number = 0;
            for (int i = start; i < end; i++) {
                number = 10 * number + bytes[i] - '0';
            }
            return within(number, least, greatest) ? number : NONE;
        }

        private boolean readStatement(Yard yard) {
            nextToken();
            if (isWord("child")) {
                return yard.children < MAX_CHILDREN && readChild(yard);
            }
            if (isWord("count")) {
                return yard.counts < MAX_COUNTS && readCount(yard);
            }
            if (isWord("with")) {
                return yard.wishes < MAX_WISHES && readWish(yard, true);
            }
            if (isWord("without")) {
                return yard.wishes < MAX_WISHES && readWish(yard, false);
            }
            if (isWord("swap")) {
                return readSwap(yard);
            }
            return isWord("move") && readMove(yard);
        }

        private boolean readChild(Yard yard) {
            int strong = nextNumber(1, MAX_STRONG);
            if (strong == NONE) {
                return false;
            }
            int step = nextNumber(0, MAX_STEP);
            if (step == NONE) {
                return false;
            }
            yard.addChild(strong, step);
            return true;
        }

        private boolean readCount(Yard yard) {
            int kind = nextNumber(COUNT, LATE);
            if (kind == NONE) {
                return false;
            }
            int n = nextNumber(MIN_TEAMS, MAX_TEAMS);
            if (n == NONE) {
                return false;
            }
            int a = nextNumber(0, MAX_SLIP);
            if (a == NONE) {
                return false;
            }
            yard.addCount(kind, n, a);
            return true;
        }

        private boolean readWish(Yard yard, boolean asOne) {
            int first = nextNumber(0, yard.children - 1);
            if (first == NONE) {
                return false;
            }
            int second = nextNumber(0, yard.children - 1);
            if (second == NONE || second == first) {
                return false;
            }
            int worth = nextNumber(1, MAX_WORTH);
            if (worth == NONE) {
                return false;
            }
            yard.addWish(first, second, asOne, worth);
            return true;
        }

        private boolean readSwap(Yard yard) {
            int first = nextNumber(0, yard.children - 1);
            if (first == NONE) {
                return false;
            }
            int second = nextNumber(0, yard.children - 1);
            if (second == NONE || second == first) {
                return false;
            }
            yard.exchange(first, second);
            return true;
        }

        private boolean readMove(Yard yard) {
            int mover = nextNumber(0, yard.children - 1);
            if (mover == NONE) {
                return false;
            }
            int target = nextNumber(0, yard.children - 1);
            if (target == NONE) {
                return false;
            }
            yard.shift(mover, target);
            return true;
        }
    }
}
