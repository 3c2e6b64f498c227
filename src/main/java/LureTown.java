/** A town of lures and walkers, as ../shared/DOC.md tells it; README.md says how to use it. */
public final class LureTown {
    /** None. */
    public static final int NONE = -1;

    private static final int NO_ROW = 99;
    private static final int CORNER_LIMIT = 8;
    private static final int LURE_LIMIT = 6;
    private static final int WALKER_LIMIT = 5;
    private static final int KIND_LIMIT = 8;
    private static final int WARY_MOST = 9;
    private static final int GUILE_MOST = 9;
    private static final int LEVY_MOST = 20;
    private static final int CHARGE_MOST = 999;
    private static final int STEP_MOST = 999;

    private static final int TAPE_LIMIT = 400;
    private static final int FEED_BYTES = 20;
    private static final int DIGIT_LIMIT = 5;
    private static final int TOWN_CLAUSES = 40;
    private static final int RULE_CLAUSES = 12;
    private static final int DEPTH_LIMIT = 10;
    private static final int PART_LIMIT = 60;

    private static final int RULE_LIMIT = 6;
    private static final int ACT_LIMIT = 20;
    private static final int NOTE_LIMIT = 10;
    private static final int NOTE_STEPS = 60;
    private static final int IMAGE_LIMIT = 4;
    private static final int AHEAD_STEPS = 100;
    private static final int HAD_STEPS = 200;
    private static final int BEST_STEPS = 40;
    private static final int REST_STEPS = 20;
    private static final int RING_STEPS = 60;
    private static final int PENCE_MOST = 9999;
    private static final int NIGHT_TIMES = 10;
    private static final int NIGHT_STEPS = 60;
    private static final long DRAW_ROUND = 2147483648L;

    private static final int FAULT_SIGN = 0;
    private static final int FAULT_NUMBER = 1;
    private static final int FAULT_DEEP = 2;
    private static final int FAULT_PART = 3;
    private static final int FAULT_CLAUSE = 4;

    /** A word's place in this list is its token; the first eleven are values of rules. */
    private static final String WORD_LIST =
            "walker corner from home heart wary charge lures mine others step go if or and not town way lure ";
    private static final int VALUE_WORDS = 11;
    private static final int WORD_WALKER = 0;
    private static final int WORD_CORNER = 1;
    private static final int WORD_FROM = 2;
    private static final int WORD_HOME = 3;
    private static final int WORD_HEART = 4;
    private static final int WORD_WARY = 5;
    private static final int WORD_CHARGE = 6;
    private static final int WORD_LURES = 7;
    private static final int WORD_MINE = 8;
    private static final int WORD_OTHERS = 9;
    private static final int WORD_STEP = 10;
    private static final int WORD_GO = 11;
    private static final int WORD_IF = 12;
    private static final int WORD_OR = 13;
    private static final int WORD_AND = 14;
    private static final int WORD_NOT = 15;
    private static final int WORD_TOWN = 16;
    private static final int WORD_WAY = 17;
    private static final int WORD_LURE = 18;

    /** A sign's token is its place in this list, behind all words. */
    private static final String SIGN_LIST = ";[]+-*/%<=>";
    private static final int FIRST_SIGN = 20;
    private static final int SIGN_NEXT = 20;
    private static final int SIGN_OPEN = 21;
    private static final int SIGN_CLOSE = 22;
    private static final int SIGN_PLUS = 23;
    private static final int SIGN_MINUS = 24;
    private static final int SIGN_TIMES = 25;
    private static final int SIGN_OVER = 26;
    private static final int SIGN_REST = 27;
    private static final int SIGN_LESS = 28;
    private static final int SIGN_LIKE = 29;
    private static final int SIGN_MORE = 30;
    private static final int SIGN_LESS_LIKE = 31;
    private static final int SIGN_MORE_LIKE = 32;
    private static final int TEXT_END = 40;
    private static final int TEXT_ODD = 41;
    private static final int TEXT_NUMBER = 42;

    /** Codes of a rule from here on are numbers. */
    private static final int NUMBER_CODE = 64;

    private final Tape tape = new Tape();
    private final TownReader townReader = new TownReader();
    private final RuleReader ruleReader = new RuleReader();
    private final Town draft = new Town();
    private final Rule[] rules = new Rule[RULE_LIMIT];
    private int ruleCount = 0;
    private final Rule noRule = new Rule();
    private final Moment now = new Moment();
    private final Moment[] images = new Moment[IMAGE_LIMIT];
    private int imagesMade = 0;
    private final Acts acts = new Acts();
    private final Course course = new Course();
    private final State altered = new State();
    private final int[] tally = new int[WALKER_LIMIT * CORNER_LIMIT];
    private final int[] marks = new int[RING_STEPS + 1];
    private final int[] gains = new int[CORNER_LIMIT * CORNER_LIMIT];
    private final int[] otherGains = new int[CORNER_LIMIT * CORNER_LIMIT];

    public LureTown() {
        for (int i = 0; i < RULE_LIMIT; i++) {
            rules[i] = new Rule();
        }
        for (int i = 0; i < IMAGE_LIMIT; i++) {
            images[i] = new Moment();
        }
    }

    // ---- the tape and what it tells ----

    public int feed(int a, int b, int c, int d, int e) {
        if (tape.size + FEED_BYTES > TAPE_LIMIT) {
            return NONE;
        }
        tape.append(a);
        tape.append(b);
        tape.append(c);
        tape.append(d);
        tape.append(e);
        return tape.size;
    }

    public int end(int n) {
        if (n < 0 || n > tape.size) {
            return NONE;
        }
        tape.size = n;
        return n;
    }

    public int town() {
        townReader.read(tape, draft);
        if (tape.fault != 0) {
            return -2 - tape.fault;
        }
        tape.size = 0;
        now.place.copyFrom(draft);
        now.state.copyFrom(draft.told);
        now.notes.size = 0;
        acts.forget();
        return now.place.walkerCount;
    }

    public int rule() {
        if (ruleCount >= RULE_LIMIT) {
            return NONE;
        }
        ruleReader.read(tape, rules[ruleCount]);
        // unlike a town's, a rule's fault takes nothing back: the tape is empty either way
        tape.size = 0;
        if (tape.fault != 0) {
            return -2 - tape.fault;
        }
        ruleCount++;
        return ruleCount - 1;
    }

    public int force(int rule) {
        if (rule < NONE || rule >= ruleCount) {
            return -2;
        }
        int before = now.inForce;
        now.inForce = rule;
        return before;
    }

    // ---- how all is ----

    public int lure(int lure, int what) {
        if (!hasLure(lure)) {
            return NONE;
        }
        switch (what) {
            case 0:
                return now.state.lureCorner[lure];
            case 1:
                return now.state.lureKind[lure];
            case 2:
                return now.place.lureGuile[lure];
            case 3:
                return now.place.lureCharge[lure];
            case 4:
                return now.state.isSet(lure) ? 1 : 0;
            default:
                return NONE;
        }
    }

    public int walker(int walker, int what) {
        if (!hasWalker(walker)) {
            return NONE;
        }
        switch (what) {
            case 0:
                return now.state.walkerCorner[walker];
            case 1:
                return now.place.walkerHome[walker];
            case 2:
                return now.state.walkerHeart[walker];
            case 3:
                return now.state.walkerWary[walker];
            case 4:
                return now.state.walkerCharge[walker];
            default:
                return NONE;
        }
    }

    public int ways(int corner) {
        return hasCorner(corner) ? now.place.joined[corner] : NONE;
    }

    public int count(int what) {
        switch (what) {
            case 0:
                return now.place.cornerCount;
            case 1:
                return now.place.wayCount;
            case 2:
                return now.place.lureCount;
            case 3:
                return now.place.walkerCount;
            case 4:
                return ruleCount;
            case 5:
                return now.inForce;
            case 6:
                return now.state.steps;
            case 7:
                return now.state.setBits;
            case 8:
                return walkersAtHome();
            case 9:
                return now.state.allCharges(now.place.walkerCount);
            case 10:
                return now.notes.size;
            case 11:
                return acts.size;
            case 12:
                return now.x;
            case 13:
                return tape.size;
            default:
                return NONE;
        }
    }

    private int walkersAtHome() {
        int bits = 0;
        for (int i = 0; i < now.place.walkerCount; i++) {
            if (now.state.walkerCorner[i] == now.place.walkerHome[i]) {
                bits |= 1 << i;
            }
        }
        return bits;
    }

    // ---- acts ----

    public int step() {
        if (!hasTown() || now.state.steps >= STEP_MOST) {
            return NONE;
        }
        acts.keep(now.state);
        startNow();
        int bits = course.goStep();
        now.state.copyFrom(course.state);
        return bits;
    }

    public int set(int lure, int corner) {
        if (!hasLure(lure) || !hasCorner(corner) || now.state.isSet(lure)) {
            return NONE;
        }
        acts.keep(now.state);
        int before = now.state.lureCorner[lure];
        now.state.lureCorner[lure] = corner;
        now.state.setAgain(lure);
        return before;
    }

    public int move(int lure, int corner) {
        if (!hasSetLure(lure) || !hasCorner(corner) || now.state.lureCorner[lure] == corner) {
            return NONE;
        }
        acts.keep(now.state);
        int before = now.state.lureCorner[lure];
        now.state.lureCorner[lure] = corner;
        return before;
    }

    public int bait(int lure, int kind) {
        if (!hasLure(lure) || kind < 0 || kind >= KIND_LIMIT || now.state.lureKind[lure] == kind) {
            return NONE;
        }
        acts.keep(now.state);
        int before = now.state.lureKind[lure];
        now.state.lureKind[lure] = kind;
        return before;
    }

    public int calm(int walker, int wary) {
        if (!hasWalker(walker) || wary < 0 || wary > WARY_MOST || now.state.walkerWary[walker] == wary) {
            return NONE;
        }
        acts.keep(now.state);
        int before = now.state.walkerWary[walker];
        now.state.walkerWary[walker] = wary;
        return before;
    }

    public int undo() {
        if (acts.size == 0) {
            return NONE;
        }
        acts.takeBack(now.state);
        return acts.size;
    }

    // ---- how it goes on ----

    public int ahead(int walker, int n, int what) {
        if (!hasTown() || n < 0 || n > AHEAD_STEPS || what < 0 || what > 2) {
            return NONE;
        }
        if (what != 2 && !hasWalker(walker)) {
            return NONE;
        }
        startNow();
        course.goSteps(n);
        if (what == 2) {
            return course.state.setBits;
        }
        return what == 0 ? course.state.walkerCorner[walker] : course.state.walkerCharge[walker];
    }

    public int had(int walker, int what) {
        if (!hasWalker(walker) || what < 0 || what > 1) {
            return NONE;
        }
        if (goTillHad(1 << walker) == 0) {
            return -2;
        }
        return what == 0 ? course.state.steps - 1 : course.hadBy[walker];
    }

    public int first(int what) {
        if (!hasTown() || what < 0 || what > 1) {
            return NONE;
        }
        int bits = goTillHad((1 << WALKER_LIMIT) - 1);
        for (int w = 0; w < WALKER_LIMIT; w++) {
            if ((bits >> w & 1) != 0) {
                return what == 0 ? course.state.steps - 1 : w;
            }
        }
        return -2;
    }

    /** Goes on till one of these walkers is had; answers who is had then, 0 if nobody is in time. */
    private int goTillHad(int walkers) {
        startNow();
        for (int i = 0; i < HAD_STEPS; i++) {
            int bits = course.goStep() & walkers;
            if (bits != 0) {
                return bits;
            }
        }
        return 0;
    }

    public int ring(int what) {
        if (!hasTown() || what < 0 || what > 1) {
            return NONE;
        }
        markSteps();
        for (int i = 0; i < RING_STEPS; i++) {
            for (int later = i + 1; later <= RING_STEPS; later++) {
                if (marks[i] == marks[later]) {
                    return what == 0 ? now.state.steps + i : later - i;
                }
            }
        }
        return -2;
    }

    private void markSteps() {
        startNow();
        for (int i = 0; i <= RING_STEPS; i++) {
            if (i > 0) {
                course.goStep();
            }
            int mark = course.state.setBits;
            for (int w = 0; w < now.place.walkerCount; w++) {
                mark = mark * CORNER_LIMIT + course.state.walkerCorner[w];
            }
            marks[i] = mark;
        }
    }

    public int nights(int m, int n, int p, int what) {
        if (!hasTown() || m < 1 || m > NIGHT_TIMES || n < 1 || n > NIGHT_STEPS) {
            return NONE;
        }
        if (p < 0 || p > 100 || what < 0 || what > 1) {
            return NONE;
        }
        int sum = 0;
        long x = now.x;
        for (int i = 0; i < m; i++) {
            startNow();
            x = goDrawn(n, p, x);
            sum += what == 0 ? course.state.allCharges(now.place.walkerCount) : Integer.bitCount(course.state.setBits);
        }
        return sum;
    }

    /** Goes n steps with drawn springs; answers x behind the last draw. */
    private long goDrawn(int n, int p, long x) {
        int lures = now.place.lureCount;
        for (int i = 0; i < n; i++) {
            x = drawn(x);
            if (x / 65536 % 100 < p && lures > 0) {
                x = drawn(x);
                course.state.setAgain((int) (x / 65536 % lures));
            }
            course.goStep();
        }
        return x;
    }

    private static long drawn(long x) {
        return (x * 1103515245L + 12345L) % DRAW_ROUND;
    }

    public int seed(int x) {
        if (x < 0) {
            return NONE;
        }
        int before = now.x;
        now.x = x;
        return before;
    }

    // ---- the way home ----

    public int far(int walker) {
        if (!hasWalker(walker)) {
            return NONE;
        }
        int ways = now.place.waysHome(walker, now.state.walkerCorner[walker]);
        return ways == NO_ROW ? -2 : ways;
    }

    public int safe(int walker) {
        if (!hasWalker(walker)) {
            return NONE;
        }
        int quiet = 0;
        for (int c = 0; c < now.place.cornerCount; c++) {
            if (now.place.lureThatHas(now.state, walker, c) == NONE) {
                quiet |= 1 << c;
            }
        }
        int ways = now.place.waysWithin(now.state.walkerCorner[walker], now.place.walkerHome[walker], quiet);
        return ways == NO_ROW ? -2 : ways;
    }

    public int stuck(int walker) {
        if (!hasWalker(walker)) {
            return NONE;
        }
        int from = now.state.walkerCorner[walker];
        int home = now.place.walkerHome[walker];
        if (now.place.waysHome(walker, from) == NO_ROW) {
            return 0;
        }
        int bits = 1 << from | 1 << home;
        for (int c = 0; c < now.place.cornerCount; c++) {
            if (now.place.waysWithin(from, home, ~(1 << c)) == NO_ROW) {
                bits |= 1 << c;
            }
        }
        return bits;
    }

    public int cover(int what) {
        if (!hasTown() || what < 0 || what > 1) {
            return NONE;
        }
        int all = (1 << now.place.cornerCount) - 1;
        int least = all;
        for (int corners = 0; corners < all; corners++) {
            if (Integer.bitCount(corners) < Integer.bitCount(least) && now.place.holdsAllWays(corners)) {
                least = corners;
            }
        }
        return what == 0 ? Integer.bitCount(least) : least;
    }

    // ---- where lures had best lie ----

    public int best(int lure, int n, int what) {
        if (!hasSetLure(lure) || n < 1 || n > BEST_STEPS || what < 0 || what > 1) {
            return NONE;
        }
        return bestOf(altered.lureCorner, now.place.cornerCount, lure, n, what);
    }

    public int kind(int lure, int n, int what) {
        if (!hasSetLure(lure) || n < 1 || n > BEST_STEPS || what < 0 || what > 1) {
            return NONE;
        }
        return bestOf(altered.lureKind, KIND_LIMIT, lure, n, what);
    }

    /** Tries all choices in a row of what is altered; how it is comes first, so that it wins when others are no better. */
    private int bestOf(int[] row, int choices, int lure, int n, int what) {
        altered.copyFrom(now.state);
        int which = NONE;
        int most = NONE;
        for (int choice = NONE; choice < choices; choice++) {
            if (choice != NONE) {
                row[lure] = choice;
            }
            course.start(now.place, inForce(), altered);
            course.goSteps(n);
            int much = course.state.allCharges(now.place.walkerCount);
            if (much > most) {
                most = much;
                which = row[lure];
            }
        }
        return what == 0 ? which : most;
    }

    public int rests(int one, int other, int n, int what) {
        if (!hasSetLure(one) || !hasSetLure(other) || one == other) {
            return NONE;
        }
        if (n < 1 || n > REST_STEPS || what < 0 || what > 2) {
            return NONE;
        }
        weighTwos(one, other, n);
        int rests = 0;
        int found = NONE;
        for (int i = 0; i < CORNER_LIMIT * CORNER_LIMIT; i++) {
            if (isRest(i / CORNER_LIMIT, i % CORNER_LIMIT)) {
                rests++;
                found = found == NONE ? i : found;
            }
        }
        if (what == 0) {
            return rests;
        }
        if (found == NONE) {
            return -2;
        }
        return what == 1 ? found / CORNER_LIMIT : found % CORNER_LIMIT;
    }

    private void weighTwos(int one, int other, int n) {
        altered.copyFrom(now.state);
        for (int c = 0; c < now.place.cornerCount; c++) {
            for (int d = 0; d < now.place.cornerCount; d++) {
                altered.lureCorner[one] = c;
                altered.lureCorner[other] = d;
                course.start(now.place, inForce(), altered);
                course.goSteps(n);
                gains[c * CORNER_LIMIT + d] = course.gainOf(one);
                otherGains[c * CORNER_LIMIT + d] = course.gainOf(other);
            }
        }
    }

    private boolean isRest(int c, int d) {
        int corners = now.place.cornerCount;
        if (c >= corners || d >= corners) {
            return false;
        }
        int two = c * CORNER_LIMIT + d;
        for (int i = 0; i < corners; i++) {
            if (gains[i * CORNER_LIMIT + d] > gains[two] || otherGains[c * CORNER_LIMIT + i] > otherGains[two]) {
                return false;
            }
        }
        return true;
    }

    public int pence(int much, int walker) {
        if (!hasWalker(walker) || much < 0 || much > PENCE_MOST) {
            return NONE;
        }
        int all = now.state.allCharges(now.place.walkerCount);
        if (all <= 0) {
            return 0;
        }
        int left = much;
        int ahead = 0;
        int lost = much * now.state.walkerCharge[walker] % all;
        for (int w = 0; w < now.place.walkerCount; w++) {
            int whole = much * now.state.walkerCharge[w];
            left -= whole / all;
            if (whole % all > lost || whole % all == lost && w < walker) {
                ahead++;
            }
        }
        return much * now.state.walkerCharge[walker] / all + (ahead < left ? 1 : 0);
    }

    // ---- what notes tell ----

    public int note(int n, int walker, int corner) {
        if (n == NONE) {
            now.notes.size = 0;
            return 0;
        }
        if (n < 0 || n > NOTE_STEPS || !hasWalker(walker) || !hasCorner(corner)) {
            return -2;
        }
        return now.notes.add(n, walker, corner) ? now.notes.size : -2;
    }

    public int hearts(int walker) {
        return hasWalker(walker) ? choicesThatAreSo(altered.walkerHeart, KIND_LIMIT, walker) : NONE;
    }

    public int waries(int walker) {
        return hasWalker(walker) ? choicesThatAreSo(altered.walkerWary, WARY_MOST + 1, walker) : NONE;
    }

    /** The choices in a row of what is altered by which all notes are so, as bits. */
    private int choicesThatAreSo(int[] row, int choices, int walker) {
        int bits = 0;
        altered.copyFrom(now.place.told);
        for (int choice = 0; choice < choices; choice++) {
            row[walker] = choice;
            if (notesAreSo(inForce(), altered)) {
                bits |= 1 << choice;
            }
        }
        return bits;
    }

    public int ruled(int what) {
        if (!hasTown() || what < 0 || what > 1) {
            return -3;
        }
        int rulesSo = 0;
        int least = -2;
        for (int r = ruleCount - 1; r >= NONE; r--) {
            if (notesAreSo(ruleOf(r), now.place.told)) {
                rulesSo++;
                least = r;
            }
        }
        return what == 0 ? rulesSo : least;
    }

    public int look(int n, int what) {
        if (!hasTown() || n < 0 || n > NOTE_STEPS || what < 0 || what > 1) {
            return NONE;
        }
        if (tallyRules(n) == 0) {
            return -2;
        }
        int who = -2;
        int fewest = -2;
        for (int w = 0; w < now.place.walkerCount; w++) {
            int alike = mostAlike(w);
            if (who < 0 || alike < fewest) {
                who = w;
                fewest = alike;
            }
        }
        return what == 0 ? who : fewest;
    }

    /** Counts by how many rules that are so each walker is where behind n steps; answers how many rules these are. */
    private int tallyRules(int n) {
        for (int i = 0; i < tally.length; i++) {
            tally[i] = 0;
        }
        int rulesSo = 0;
        for (int r = NONE; r < ruleCount; r++) {
            if (notesAreSo(ruleOf(r), now.place.told)) {
                rulesSo++;
                course.start(now.place, ruleOf(r), now.place.told);
                course.goSteps(n);
                for (int w = 0; w < now.place.walkerCount; w++) {
                    tally[w * CORNER_LIMIT + course.state.walkerCorner[w]]++;
                }
            }
        }
        return rulesSo;
    }

    private int mostAlike(int walker) {
        int most = 0;
        for (int c = 0; c < CORNER_LIMIT; c++) {
            most = Math.max(most, tally[walker * CORNER_LIMIT + c]);
        }
        return most;
    }

    private boolean notesAreSo(Rule rule, State begin) {
        course.start(now.place, rule, begin);
        int last = now.notes.lastStep();
        for (int n = 0; n <= last; n++) {
            if (n > 0) {
                course.goStep();
            }
            if (!now.notes.areSoBehind(n, course.state)) {
                return false;
            }
        }
        return true;
    }

    // ---- images ----

    public int image(int k) {
        if (k < 0 || k >= IMAGE_LIMIT) {
            return NONE;
        }
        images[k].copyFrom(now);
        imagesMade |= 1 << k;
        return now.state.steps;
    }

    public int back(int k) {
        if (k < 0 || k >= IMAGE_LIMIT || (imagesMade >> k & 1) == 0) {
            return NONE;
        }
        now.copyFrom(images[k]);
        acts.forget();
        return now.state.steps;
    }

    // ---- what there is ----

    private boolean hasTown() {
        return now.place.cornerCount > 0;
    }

    private boolean hasCorner(int corner) {
        return corner >= 0 && corner < now.place.cornerCount;
    }

    private boolean hasLure(int lure) {
        return lure >= 0 && lure < now.place.lureCount;
    }

    private boolean hasSetLure(int lure) {
        return hasLure(lure) && now.state.isSet(lure);
    }

    private boolean hasWalker(int walker) {
        return walker >= 0 && walker < now.place.walkerCount;
    }

    private Rule ruleOf(int number) {
        return number >= 0 && number < ruleCount ? rules[number] : noRule;
    }

    private Rule inForce() {
        return ruleOf(now.inForce);
    }

    private void startNow() {
        course.start(now.place, inForce(), now.state);
    }

    /** The bytes that were fed, read token by token; it keeps the first fault along the text. */
    private static final class Tape {
        final byte[] bytes = new byte[TAPE_LIMIT];
        int size = 0;
        int fault = 0;
        int token = TEXT_END;
        int number = 0;
        private int start = 0;
        private int reached = 0;

        void append(int four) {
            for (int shift = 24; shift >= 0; shift -= 8) {
                if (size < TAPE_LIMIT) {
                    bytes[size] = (byte) (four >> shift);
                    size++;
                }
            }
        }

        void rewind() {
            start = 0;
            reached = 0;
            fault = 0;
        }

        /** Only the first fault counts, and texts are read from left to right. */
        void blame(int sort) {
            if (fault == 0) {
                fault = 1 + 8 * start + sort;
            }
        }

        void readToken() {
            while (reached < size && bytes[reached] == ' ') {
                reached++;
            }
            start = reached;
            if (reached >= size) {
                token = TEXT_END;
            } else if (digitAt(reached)) {
                readNumber();
            } else if (letterAt(reached)) {
                readWord();
            } else {
                readSign();
            }
        }

        private boolean digitAt(int i) {
            return bytes[i] >= '0' && bytes[i] <= '9';
        }

        private boolean letterAt(int i) {
            return bytes[i] >= 'a' && bytes[i] <= 'z';
        }

        private void readNumber() {
            token = TEXT_NUMBER;
            number = 0;
            while (reached < size && digitAt(reached)) {
                if (reached - start < DIGIT_LIMIT) {
                    number = number * 10 + bytes[reached] - '0';
                }
                reached++;
            }
            if (reached - start > DIGIT_LIMIT) {
                // no number of any clause is below 0, so this one is refused wherever it stands
                number = NONE;
            }
        }

        private void readWord() {
            while (reached < size && letterAt(reached)) {
                reached++;
            }
            token = TEXT_ODD;
            int from = 0;
            int word = 0;
            for (int i = 0; i < WORD_LIST.length(); i++) {
                if (WORD_LIST.charAt(i) == ' ') {
                    if (i - from == reached - start && isWordAt(from)) {
                        token = word;
                    }
                    word++;
                    from = i + 1;
                }
            }
        }

        private boolean isWordAt(int from) {
            for (int i = 0; i < reached - start; i++) {
                if (WORD_LIST.charAt(from + i) != bytes[start + i]) {
                    return false;
                }
            }
            return true;
        }

        private void readSign() {
            int sign = SIGN_LIST.indexOf((char) (bytes[start] & 255));
            token = sign < 0 ? TEXT_ODD : FIRST_SIGN + sign;
            reached++;
            if ((token == SIGN_LESS || token == SIGN_MORE) && reached < size && bytes[reached] == '=') {
                token = token == SIGN_LESS ? SIGN_LESS_LIKE : SIGN_MORE_LIKE;
                reached++;
            }
        }
    }

    /** Reads the text of a town. */
    private static final class TownReader {
        private Tape tape = new Tape();
        private Town town = new Town();
        private final int[] numbers = new int[4];

        void read(Tape from, Town into) {
            tape = from;
            town = into;
            town.clear();
            tape.rewind();
            boolean more = true;
            for (int i = 0; i <= TOWN_CLAUSES && more; i++) {
                readClause(i);
                more = tape.fault == 0 && tape.token == SIGN_NEXT;
            }
            if (tape.fault == 0) {
                town.measure();
            }
        }

        /** Leaves the tape at what stands behind the clause. */
        private void readClause(int before) {
            tape.readToken();
            int word = tape.token;
            if (word != WORD_TOWN && word != WORD_WAY && word != WORD_LURE && word != WORD_WALKER) {
                tape.blame(FAULT_SIGN);
                return;
            }
            if (isTooMany(word, before)) {
                tape.blame(FAULT_CLAUSE);
                return;
            }
            int wanted = word == WORD_TOWN ? 1 : word == WORD_WAY ? 2 : 4;
            for (int i = 0; i < wanted && tape.fault == 0; i++) {
                readNumber(i, leastOf(word, i), mostOf(word, i));
            }
            if (word == WORD_WAY && numbers[0] == numbers[1]) {
                tape.blame(FAULT_NUMBER);
            }
            if (tape.fault == 0) {
                tellTown(word);
                readClauseEnd();
            }
        }

        private boolean isTooMany(int word, int before) {
            return before >= TOWN_CLAUSES
                    || (before == 0) != (word == WORD_TOWN)
                    || word == WORD_LURE && town.lureCount >= LURE_LIMIT
                    || word == WORD_WALKER && town.walkerCount >= WALKER_LIMIT;
        }

        private void readNumber(int i, int least, int most) {
            tape.readToken();
            if (tape.token != TEXT_NUMBER) {
                tape.blame(FAULT_SIGN);
            } else if (tape.number < least || tape.number > most) {
                tape.blame(FAULT_NUMBER);
            } else {
                numbers[i] = tape.number;
            }
        }

        private static int leastOf(int word, int i) {
            if (word == WORD_TOWN) {
                return 2;
            }
            return word == WORD_LURE && i >= 2 ? 1 : 0;
        }

        private int mostOf(int word, int i) {
            if (word == WORD_TOWN) {
                return CORNER_LIMIT;
            }
            if (word == WORD_LURE && i > 0) {
                return i == 1 ? KIND_LIMIT - 1 : i == 2 ? GUILE_MOST : LEVY_MOST;
            }
            if (word == WORD_WALKER && i > 1) {
                return i == 2 ? KIND_LIMIT - 1 : WARY_MOST;
            }
            return town.cornerCount - 1;
        }

        private void tellTown(int word) {
            if (word == WORD_TOWN) {
                town.cornerCount = numbers[0];
            } else if (word == WORD_WAY) {
                town.join(numbers[0], numbers[1]);
            } else if (word == WORD_LURE) {
                town.addLure(numbers[0], numbers[1], numbers[2], numbers[3]);
            } else {
                town.addWalker(numbers[0], numbers[1], numbers[2], numbers[3]);
            }
        }

        private void readClauseEnd() {
            tape.readToken();
            if (tape.token != SIGN_NEXT && tape.token != TEXT_END) {
                tape.blame(FAULT_SIGN);
            }
        }
    }

    /** Reads the text of a rule: operators are held till what they bind stands in the rule's code. */
    private static final class RuleReader {
        private static final int WANT_CLAUSE = 0;
        private static final int WANT_FACT = 1;
        private static final int WANT_VALUE = 2;
        private static final int WANT_MORE = 3;
        private static final int WANT_NOTHING = 4;

        /** What the last value stands in; a closed bracket takes no more operators. */
        private static final int IN_GO = 0;
        private static final int IN_LEFT = 1;
        private static final int IN_RIGHT = 2;
        private static final int IN_CLOSED = 3;

        private Tape tape = new Tape();
        private final int[] held = new int[TAPE_LIMIT];
        private int heldCount = 0;
        private int depth = 0;
        private int brackets = 0;
        private int parts = 0;
        private int want = WANT_CLAUSE;
        private int side = IN_GO;
        private Rule rule = new Rule();

        void read(Tape from, Rule into) {
            tape = from;
            rule = into;
            rule.clear();
            tape.rewind();
            heldCount = 0;
            depth = 0;
            brackets = 0;
            parts = 0;
            want = WANT_CLAUSE;
            for (int i = 0; i <= TAPE_LIMIT && tape.fault == 0 && want != WANT_NOTHING; i++) {
                tape.readToken();
                takeToken();
            }
        }

        private void takeToken() {
            switch (want) {
                case WANT_CLAUSE:
                    takeClause();
                    break;
                case WANT_FACT:
                    takeFact();
                    break;
                case WANT_VALUE:
                    takeValue();
                    break;
                default:
                    takeMore();
                    break;
            }
        }

        private void takeClause() {
            if (tape.token != WORD_GO) {
                tape.blame(FAULT_SIGN);
            } else if (rule.clauseCount >= RULE_CLAUSES) {
                tape.blame(FAULT_CLAUSE);
            } else {
                side = IN_GO;
                want = WANT_VALUE;
            }
        }

        private void takeFact() {
            if (tape.token != WORD_NOT && tape.token != SIGN_OPEN) {
                side = IN_LEFT;
                takeValue();
            } else if (depth >= DEPTH_LIMIT) {
                tape.blame(FAULT_DEEP);
            } else {
                depth++;
                brackets += tape.token == SIGN_OPEN ? 1 : 0;
                hold(tape.token);
            }
        }

        private void takeValue() {
            boolean isNumber = tape.token == TEXT_NUMBER;
            if (!isNumber && tape.token >= VALUE_WORDS) {
                tape.blame(FAULT_SIGN);
            } else if (isNumber && tape.number < 0) {
                tape.blame(FAULT_NUMBER);
            } else {
                takePart();
                rule.write(isNumber ? NUMBER_CODE + tape.number : tape.token);
                want = WANT_MORE;
            }
        }

        private void takePart() {
            if (parts >= PART_LIMIT) {
                tape.blame(FAULT_PART);
            }
            parts++;
        }

        private void takeMore() {
            int token = tape.token;
            int rank = rankOf(token);
            if (rank >= 5 && side != IN_CLOSED) {
                takeOperator(rank, WANT_VALUE);
            } else if (rank == 4 && side == IN_LEFT) {
                takePart();
                takeOperator(rank, WANT_VALUE);
                side = IN_RIGHT;
            } else if (token == WORD_IF && side == IN_GO) {
                release(1);
                rule.beginTest();
                want = WANT_FACT;
            } else if ((token == WORD_AND || token == WORD_OR) && side >= IN_RIGHT) {
                takeOperator(rank, WANT_FACT);
            } else if (token == SIGN_CLOSE && side >= IN_RIGHT && brackets > 0) {
                closeBracket();
            } else if ((token == SIGN_NEXT || token == TEXT_END) && side != IN_LEFT && brackets == 0) {
                release(1);
                rule.closeClause();
                want = token == SIGN_NEXT ? WANT_CLAUSE : WANT_NOTHING;
            } else {
                tape.blame(FAULT_SIGN);
            }
        }

        private void takeOperator(int rank, int next) {
            release(rank);
            hold(tape.token);
            want = next;
        }

        private void closeBracket() {
            release(1);
            // what release left on top is the bracket itself
            if (heldCount > 0) {
                heldCount--;
            }
            depth--;
            brackets--;
            side = IN_CLOSED;
        }

        private void hold(int operator) {
            if (heldCount < held.length) {
                held[heldCount] = operator;
                heldCount++;
            }
        }

        /** Writes the held operators, the last first, down to one that binds less than this rank. */
        private void release(int rank) {
            while (heldCount > 0 && rankOf(held[heldCount - 1]) >= rank) {
                heldCount--;
                rule.write(held[heldCount]);
                if (held[heldCount] == WORD_NOT) {
                    depth--;
                }
            }
        }

        /** How strongly an operator binds; 0 for all that is none. */
        private static int rankOf(int token) {
            if (token >= SIGN_TIMES && token <= SIGN_REST) {
                return 6;
            }
            if (token == SIGN_PLUS || token == SIGN_MINUS) {
                return 5;
            }
            if (token >= SIGN_LESS && token <= SIGN_MORE_LIKE) {
                return 4;
            }
            switch (token) {
                case WORD_NOT:
                    return 3;
                case WORD_AND:
                    return 2;
                case WORD_OR:
                    return 1;
                default:
                    return 0;
            }
        }
    }

    /** A rule: of each clause its sum, then its test, operators behind what they bind; no clauses: no rule. */
    private static final class Rule {
        int clauseCount = 0;
        private final int[] code = new int[TAPE_LIMIT];
        private int codeSize = 0;
        private final int[] sumFrom = new int[RULE_CLAUSES + 1];
        private final int[] testFrom = new int[RULE_CLAUSES + 1];
        private final long[] stack = new long[PART_LIMIT + 1];

        void clear() {
            clauseCount = 0;
            codeSize = 0;
            testFrom[0] = NONE;
        }

        /** A code has at least a byte of the text to itself, so there is room for all. */
        void write(int entry) {
            if (codeSize < code.length) {
                code[codeSize] = entry;
                codeSize++;
            }
        }

        void beginTest() {
            if (clauseCount < RULE_CLAUSES) {
                testFrom[clauseCount] = codeSize;
            }
        }

        void closeClause() {
            if (clauseCount < RULE_CLAUSES) {
                if (testFrom[clauseCount] == NONE) {
                    testFrom[clauseCount] = codeSize;
                }
                clauseCount++;
                sumFrom[clauseCount] = codeSize;
                testFrom[clauseCount] = NONE;
            }
        }

        /** What the first clause says whose test holds, or that has none; 0 if none does. */
        long worth(int[] words) {
            for (int i = 0; i < clauseCount; i++) {
                int test = testFrom[i];
                int behind = sumFrom[i + 1];
                if (test == behind || answer(test, behind, words) != 0) {
                    return answer(sumFrom[i], test, words);
                }
            }
            return 0;
        }

        private long answer(int from, int to, int[] words) {
            int top = 0;
            for (int i = from; i < to; i++) {
                int entry = code[i];
                if (entry >= NUMBER_CODE || entry < VALUE_WORDS) {
                    if (top < stack.length) {
                        stack[top] = entry >= NUMBER_CODE ? entry - NUMBER_CODE : words[entry];
                        top++;
                    }
                } else if (entry == WORD_NOT && top >= 1) {
                    stack[top - 1] = 1 - stack[top - 1];
                } else if (top >= 2) {
                    top--;
                    stack[top - 1] = joined(entry, stack[top - 1], stack[top]);
                }
            }
            return stack[0];
        }

        private static long joined(int operator, long one, long other) {
            switch (operator) {
                case SIGN_PLUS:
                    return one + other;
                case SIGN_MINUS:
                    return one - other;
                case SIGN_TIMES:
                    return one * other;
                case SIGN_OVER:
                    return other == 0 ? 0 : one / other;
                case SIGN_REST:
                    return other == 0 ? 0 : one % other;
                case SIGN_LESS:
                    return one < other ? 1 : 0;
                case SIGN_LESS_LIKE:
                    return one <= other ? 1 : 0;
                case SIGN_LIKE:
                    return one == other ? 1 : 0;
                case SIGN_MORE_LIKE:
                    return one >= other ? 1 : 0;
                case SIGN_MORE:
                    return one > other ? 1 : 0;
                case WORD_AND:
                    return one & other;
                default:
                    return one | other;
            }
        }
    }

    /** What changes from step to step: where all are, what they are like, and which lures are set. */
    private static final class State {
        final int[] walkerCorner = new int[WALKER_LIMIT];
        final int[] walkerHeart = new int[WALKER_LIMIT];
        final int[] walkerWary = new int[WALKER_LIMIT];
        final int[] walkerCharge = new int[WALKER_LIMIT];
        final int[] lureCorner = new int[LURE_LIMIT];
        final int[] lureKind = new int[LURE_LIMIT];
        int setBits = 0;
        int steps = 0;

        void copyFrom(State other) {
            System.arraycopy(other.walkerCorner, 0, walkerCorner, 0, WALKER_LIMIT);
            System.arraycopy(other.walkerHeart, 0, walkerHeart, 0, WALKER_LIMIT);
            System.arraycopy(other.walkerWary, 0, walkerWary, 0, WALKER_LIMIT);
            System.arraycopy(other.walkerCharge, 0, walkerCharge, 0, WALKER_LIMIT);
            System.arraycopy(other.lureCorner, 0, lureCorner, 0, LURE_LIMIT);
            System.arraycopy(other.lureKind, 0, lureKind, 0, LURE_LIMIT);
            setBits = other.setBits;
            steps = other.steps;
        }

        boolean isSet(int lure) {
            return (setBits >> lure & 1) != 0;
        }

        void setAgain(int lure) {
            setBits |= 1 << lure;
        }

        int allCharges(int walkers) {
            int sum = 0;
            for (int i = 0; i < walkers; i++) {
                sum += walkerCharge[i];
            }
            return sum;
        }
    }

    /** What a town's text tells once and for all, and the state of its begin; no corners: no town. */
    private static final class Town {
        int cornerCount = 0;
        int wayCount = 0;
        int lureCount = 0;
        int walkerCount = 0;
        final int[] joined = new int[CORNER_LIMIT];
        final int[] lureGuile = new int[LURE_LIMIT];
        final int[] lureCharge = new int[LURE_LIMIT];
        final int[] walkerHome = new int[WALKER_LIMIT];
        final State told = new State();
        private final int[] apart = new int[CORNER_LIMIT * CORNER_LIMIT];

        void clear() {
            cornerCount = 0;
            wayCount = 0;
            lureCount = 0;
            walkerCount = 0;
            told.setBits = 0;
            for (int i = 0; i < CORNER_LIMIT; i++) {
                joined[i] = 0;
            }
        }

        void copyFrom(Town other) {
            cornerCount = other.cornerCount;
            wayCount = other.wayCount;
            lureCount = other.lureCount;
            walkerCount = other.walkerCount;
            System.arraycopy(other.joined, 0, joined, 0, CORNER_LIMIT);
            System.arraycopy(other.lureGuile, 0, lureGuile, 0, LURE_LIMIT);
            System.arraycopy(other.lureCharge, 0, lureCharge, 0, LURE_LIMIT);
            System.arraycopy(other.walkerHome, 0, walkerHome, 0, WALKER_LIMIT);
            System.arraycopy(other.apart, 0, apart, 0, CORNER_LIMIT * CORNER_LIMIT);
            told.copyFrom(other.told);
        }

        void join(int one, int other) {
            if ((joined[one] >> other & 1) == 0) {
                joined[one] |= 1 << other;
                joined[other] |= 1 << one;
                wayCount++;
            }
        }

        void addLure(int corner, int kind, int guile, int levy) {
            told.lureCorner[lureCount] = corner;
            told.lureKind[lureCount] = kind;
            lureGuile[lureCount] = guile;
            lureCharge[lureCount] = levy;
            told.setAgain(lureCount);
            lureCount++;
        }

        void addWalker(int corner, int home, int heart, int wary) {
            told.walkerCorner[walkerCount] = corner;
            told.walkerHeart[walkerCount] = heart;
            told.walkerWary[walkerCount] = wary;
            walkerHome[walkerCount] = home;
            walkerCount++;
        }

        /** Steps ask often how far it is, so all of that is kept. */
        void measure() {
            for (int from = 0; from < cornerCount; from++) {
                for (int to = 0; to < cornerCount; to++) {
                    apart[from * CORNER_LIMIT + to] = waysWithin(from, to, -1);
                }
            }
        }

        int waysHome(int walker, int corner) {
            return apart[corner * CORNER_LIMIT + walkerHome[walker]];
        }

        /** The fewest ways between two corners by these corners alone (the first one is not asked). */
        int waysWithin(int from, int to, int corners) {
            int reached = 1 << from;
            for (int ways = 0; ways < cornerCount; ways++) {
                if ((reached >> to & 1) != 0) {
                    return ways;
                }
                int wider = reached;
                for (int c = 0; c < cornerCount; c++) {
                    if ((reached >> c & 1) != 0) {
                        wider |= joined[c] & corners;
                    }
                }
                reached = wider;
            }
            return NO_ROW;
        }

        boolean holdsAllWays(int corners) {
            for (int c = 0; c < cornerCount; c++) {
                if ((corners >> c & 1) == 0 && (joined[c] & ~corners) != 0) {
                    return false;
                }
            }
            return true;
        }

        boolean wouldHave(State state, int lure, int walker) {
            return (state.setBits >> lure & 1) != 0
                    && state.lureKind[lure] == state.walkerHeart[walker]
                    && lureGuile[lure] > state.walkerWary[walker];
        }

        /** The least lure at a corner that would have a walker. */
        int lureThatHas(State state, int walker, int corner) {
            for (int i = 0; i < lureCount; i++) {
                if (state.lureCorner[i] == corner && wouldHave(state, i, walker)) {
                    return i;
                }
            }
            return NONE;
        }
    }

    /** Steps that go on from a state of its own, so that nothing else changes. */
    private static final class Course {
        final State state = new State();
        final int[] hadBy = new int[WALKER_LIMIT];
        private final int[] goals = new int[WALKER_LIMIT];
        private final int[] words = new int[VALUE_WORDS];
        private Town town = new Town();
        private Rule rule = new Rule();

        void start(Town of, Rule by, State from) {
            town = of;
            rule = by;
            state.copyFrom(from);
        }

        void goSteps(int n) {
            for (int i = 0; i < n; i++) {
                goStep();
            }
        }

        /** Answers the walkers who are had, as bits. */
        int goStep() {
            for (int w = 0; w < town.walkerCount; w++) {
                goals[w] = rule.clauseCount == 0 ? homeward(w) : ruledGoal(w);
            }
            System.arraycopy(goals, 0, state.walkerCorner, 0, town.walkerCount);
            int bits = 0;
            for (int w = 0; w < town.walkerCount; w++) {
                hadBy[w] = town.lureThatHas(state, w, state.walkerCorner[w]);
                if (hadBy[w] != NONE) {
                    spring(hadBy[w], w);
                    bits |= 1 << w;
                }
            }
            state.steps++;
            return bits;
        }

        private void spring(int lure, int walker) {
            state.setBits &= ~(1 << lure);
            state.walkerCharge[walker] = Math.min(CHARGE_MOST, state.walkerCharge[walker] + town.lureCharge[lure]);
            state.walkerWary[walker] = Math.min(WARY_MOST, state.walkerWary[walker] + 1);
        }

        private int homeward(int walker) {
            int from = state.walkerCorner[walker];
            int left = town.waysHome(walker, from);
            for (int c = 0; c < town.cornerCount && left != NO_ROW; c++) {
                if ((town.joined[from] >> c & 1) != 0 && town.waysHome(walker, c) == left - 1) {
                    return c;
                }
            }
            return from;
        }

        private int ruledGoal(int walker) {
            int from = state.walkerCorner[walker];
            int goal = from;
            long most = 0;
            tellWalker(walker);
            for (int c = 0; c < town.cornerCount; c++) {
                if (c == from || (town.joined[from] >> c & 1) != 0) {
                    tellCorner(walker, c);
                    long worth = rule.worth(words);
                    if (worth > most) {
                        most = worth;
                        goal = c;
                    }
                }
            }
            return goal;
        }

        private void tellWalker(int walker) {
            words[WORD_WALKER] = walker;
            words[WORD_FROM] = state.walkerCorner[walker];
            words[WORD_HEART] = state.walkerHeart[walker];
            words[WORD_WARY] = state.walkerWary[walker];
            words[WORD_CHARGE] = state.walkerCharge[walker];
            words[WORD_STEP] = state.steps;
        }

        private void tellCorner(int walker, int corner) {
            int lures = 0;
            int mine = 0;
            for (int i = 0; i < town.lureCount; i++) {
                if (state.lureCorner[i] == corner && state.isSet(i)) {
                    lures++;
                    mine += town.wouldHave(state, i, walker) ? 1 : 0;
                }
            }
            int others = 0;
            for (int w = 0; w < town.walkerCount; w++) {
                others += w != walker && state.walkerCorner[w] == corner ? 1 : 0;
            }
            words[WORD_CORNER] = corner;
            words[WORD_HOME] = town.waysHome(walker, corner);
            words[WORD_LURES] = lures;
            words[WORD_MINE] = mine;
            words[WORD_OTHERS] = others;
        }

        /** What a lure has got by now in a game of rests. */
        int gainOf(int lure) {
            if (!state.isSet(lure)) {
                return town.lureCharge[lure];
            }
            for (int w = 0; w < town.walkerCount; w++) {
                if (state.walkerCorner[w] == state.lureCorner[lure]) {
                    return 1;
                }
            }
            return 0;
        }
    }

    /** Notes of where walkers were. */
    private static final class Notes {
        int size = 0;
        private final int[] behind = new int[NOTE_LIMIT];
        private final int[] walkers = new int[NOTE_LIMIT];
        private final int[] corners = new int[NOTE_LIMIT];

        void copyFrom(Notes other) {
            size = other.size;
            System.arraycopy(other.behind, 0, behind, 0, NOTE_LIMIT);
            System.arraycopy(other.walkers, 0, walkers, 0, NOTE_LIMIT);
            System.arraycopy(other.corners, 0, corners, 0, NOTE_LIMIT);
        }

        boolean add(int n, int walker, int corner) {
            if (size >= NOTE_LIMIT) {
                return false;
            }
            behind[size] = n;
            walkers[size] = walker;
            corners[size] = corner;
            size++;
            return true;
        }

        int lastStep() {
            int last = NONE;
            for (int i = 0; i < size; i++) {
                last = Math.max(last, behind[i]);
            }
            return last;
        }

        boolean areSoBehind(int n, State state) {
            for (int i = 0; i < size; i++) {
                if (behind[i] == n && state.walkerCorner[walkers[i]] != corners[i]) {
                    return false;
                }
            }
            return true;
        }
    }

    /** All that an image holds. */
    private static final class Moment {
        final Town place = new Town();
        final State state = new State();
        final Notes notes = new Notes();
        int inForce = NONE;
        int x = 0;

        void copyFrom(Moment other) {
            place.copyFrom(other.place);
            state.copyFrom(other.state);
            notes.copyFrom(other.notes);
            inForce = other.inForce;
            x = other.x;
        }
    }

    /** The states ahead of the last acts; the oldest gives way to a new one. */
    private static final class Acts {
        int size = 0;
        private int next = 0;
        private final State[] before = new State[ACT_LIMIT];

        Acts() {
            for (int i = 0; i < ACT_LIMIT; i++) {
                before[i] = new State();
            }
        }

        void forget() {
            size = 0;
        }

        void keep(State state) {
            before[next].copyFrom(state);
            next = (next + 1) % ACT_LIMIT;
            size = Math.min(ACT_LIMIT, size + 1);
        }

        void takeBack(State state) {
            next = (next + ACT_LIMIT - 1) % ACT_LIMIT;
            size--;
            state.copyFrom(before[next]);
        }
    }
}
