import java.nio.charset.StandardCharsets;
import java.util.Random;

/** Runs of random calls, held against a second telling of the document. */
public final class ModelTests {
    private static final int RUNS = 1500;
    private static final String[] WORDS = {"walker", "corner", "from", "home", "heart", "wary", "charge", "lures", "mine", "others", "step"};
    private static final String[] SIGNS = {"<", "<=", "=", ">=", ">"};
    private static final String[] BITS = {";", "[", "]", "+", "-", "*", "/", "%", "<", "<=", "=", ">=", ">", " ", "go", "if", "or", "and",
        "not", "town", "way", "lure", "walker", "0", "1", "7", "12", "99999", "100000", "x", "steps", "\u0000", "\u00e9", "G", ".", "home"};

    private final Random random;
    private LureTown town = new LureTown();
    private Model model = new Model();
    private int calls = 0;

    private ModelTests(long seed) {
        random = new Random(seed);
    }

    public static void main(String[] args) {
        for (int run = 0; run < RUNS; run++) {
            new ModelTests(run).run(run);
        }
        Due.leave();
    }

    private int upTo(int n) {
        return random.nextInt(n + 1);
    }

    private boolean oneOf(int n) {
        return random.nextInt(n) == 0;
    }

    private String pick(String[] of) {
        return of[random.nextInt(of.length)];
    }

    /** Mostly within the bounds, at times just outside or far out. */
    private int near(int least, int most) {
        if (oneOf(60)) {
            return oneOf(2) ? Integer.MIN_VALUE : Integer.MAX_VALUE;
        }
        return oneOf(12) ? least - 1 + upTo(1) * (most - least + 2) : least + upTo(most - least);
    }

    private int mostly(int size, int limit) {
        return oneOf(8) ? near(0, limit) : upTo(Math.max(0, size - 1));
    }

    private int aLure() {
        return mostly(model.now.lures.size(), 5);
    }

    private int aWalker() {
        return mostly(model.now.walkers.size(), 4);
    }

    private int aCorner() {
        return mostly(model.now.corners, 7);
    }

    private void run(int run) {
        for (int i = 0; i < 4 && !model.isTown(); i++) {
            tell(townText(), true, run);
        }
        for (int i = upTo(3); i > 0; i--) {
            tell(ruleText(), false, run);
        }
        if (oneOf(2)) {
            check(run, "force", town.force(0), model.force(0));
        }
        while (calls < 480) {
            call(run);
        }
    }

    private void check(int run, String call, int got, int want) {
        calls++;
        Due.is("run " + run + ", call " + calls + ": " + call, got, want);
    }

    private void tell(String text, boolean isTown, int run) {
        Due.tape(town, text);
        model.tape = new String(text.getBytes(StandardCharsets.ISO_8859_1), StandardCharsets.ISO_8859_1);
        calls += 2 + text.length() / 20;
        if (isTown) {
            check(run, "town '" + text + "'", town.town(), model.town());
        } else {
            check(run, "rule '" + text + "'", town.rule(), model.rule());
        }
        check(run, "the tape behind '" + text + "'", town.count(13), model.count(13));
    }

    private String cut(StringBuilder text) {
        if (oneOf(5) && text.length() > 0) {
            for (int i = upTo(2); i >= 0; i--) {
                int at = upTo(text.length());
                if (oneOf(3)) {
                    text.delete(at, Math.min(text.length(), at + 1 + upTo(3)));
                } else {
                    text.insert(at, pick(BITS));
                }
            }
        }
        return text.substring(0, Math.min(400, text.length()));
    }

    private String townText() {
        int corners = 2 + upTo(6);
        StringBuilder s = new StringBuilder("town " + corners);
        int clauses = oneOf(12) ? 36 + upTo(6) : 3 + upTo(18);
        String[] gaps = oneOf(4) ? new String[] {" ", "  ", " "} : new String[] {" "};
        int kinds = oneOf(3) ? 7 : upTo(2);
        for (int i = 0; i < corners && oneOf(2) && clauses < 30; i++) {
            s.append(";way ").append(i).append(' ').append((i + 1) % corners);
        }
        for (int i = 0; i < clauses; i++) {
            s.append(";");
            int sort = clauses > 30 ? oneOf(9) ? 0 : 9 : random.nextInt(10);
            if (sort < 3) {
                s.append("lure " + upTo(corners - 1) + pick(gaps) + upTo(kinds) + " " + (1 + upTo(8)) + pick(gaps) + (1 + upTo(19)));
            } else if (sort < 5) {
                s.append("walker " + upTo(corners - 1) + pick(gaps) + upTo(corners - 1) + " " + upTo(kinds) + " " + upTo(oneOf(3) ? 9 : 4));
            } else {
                int a = upTo(corners - 1);
                int b = oneOf(40) ? a : (a + 1 + random.nextInt(corners - 1)) % corners;
                s.append("way" + a + pick(gaps) + b);
            }
        }
        return cut(s);
    }

    private String value() {
        return oneOf(2) ? pick(WORDS) : "" + (oneOf(4) ? upTo(99999) : upTo(9));
    }

    private String sum() {
        StringBuilder s = new StringBuilder(value());
        for (int i = upTo(oneOf(6) ? 12 : 3); i > 0; i--) {
            s.append(oneOf(2) ? "" : " ").append("+-*/%".charAt(random.nextInt(5))).append(oneOf(2) ? "" : " ").append(value());
        }
        return s.toString();
    }

    private String test(int depth) {
        int sort = depth <= 0 ? 9 : random.nextInt(10);
        if (sort < 2) {
            return "[" + test(depth - 1) + "]";
        }
        if (sort < 4) {
            return "not " + test(depth - 1);
        }
        if (sort < 6) {
            return test(depth - 1) + (oneOf(2) ? " and " : " or ") + test(depth - 2);
        }
        return (oneOf(2) ? value() : sum()) + pick(SIGNS) + (oneOf(2) ? value() : sum());
    }

    private String ruleText() {
        StringBuilder s = new StringBuilder();
        if (oneOf(15)) {
            s.append("go 1 if ");
            int depth = 8 + upTo(4);
            StringBuilder close = new StringBuilder();
            for (int i = 0; i < depth; i++) {
                boolean open = oneOf(2);
                s.append(open ? "[" : "not ");
                close.append(open ? "]" : "");
            }
            s.append("corner = 1").append(close);
            return cut(s);
        }
        int clauses = oneOf(10) ? 10 + upTo(4) : 1 + upTo(3);
        for (int i = 0; i < clauses; i++) {
            s.append(i > 0 ? ";" : "").append("go ").append(clauses > 5 ? value() : sum());
            if (oneOf(2)) {
                s.append(" if ").append(clauses > 5 ? value() + pick(SIGNS) + value() : test(4));
            }
        }
        return cut(s);
    }

    private void call(int run) {
        int a;
        int b;
        int n;
        int what = near(0, 1);
        switch (random.nextInt(44)) {
            case 0 -> {
                if (oneOf(4)) {
                    tell(townText(), true, run);
                }
            }
            case 1 -> tell(ruleText(), false, run);
            case 2 -> { a = near(-1, model.rules.size()); check(run, "force " + a, town.force(a), model.force(a)); }
            case 3 -> { a = aLure(); b = near(0, 4); check(run, "lure " + a + " " + b, town.lure(a, b), model.lure(a, b)); }
            case 4 -> { a = aWalker(); b = near(0, 4); check(run, "walker " + a + " " + b, town.walker(a, b), model.walker(a, b)); }
            case 5 -> { a = aCorner(); check(run, "ways " + a, town.ways(a), model.ways(a)); }
            case 6, 7, 8, 9 -> check(run, "step", town.step(), model.step());
            case 10, 11 -> { a = aLure(); b = aCorner(); check(run, "set " + a + " " + b, town.set(a, b), model.set(a, b)); }
            case 12 -> { a = aLure(); b = aCorner(); check(run, "move " + a + " " + b, town.move(a, b), model.move(a, b)); }
            case 13 -> { a = aLure(); b = near(0, 7); check(run, "bait " + a + " " + b, town.bait(a, b), model.bait(a, b)); }
            case 14 -> { a = aWalker(); b = near(0, 9); check(run, "calm " + a + " " + b, town.calm(a, b), model.calm(a, b)); }
            case 15, 16 -> check(run, "undo", town.undo(), model.undo());
            case 17 -> { a = aWalker(); n = near(0, 100); b = near(0, 2); check(run, "ahead " + a + " " + n + " " + b, town.ahead(a, n, b), model.ahead(a, n, b)); }
            case 18 -> { a = aWalker(); check(run, "had " + a + " " + what, town.had(a, what), model.had(a, what)); }
            case 19 -> check(run, "first " + what, town.first(what), model.first(what));
            case 20 -> { a = aWalker(); check(run, "far " + a, town.far(a), model.far(a)); }
            case 21 -> { a = aWalker(); check(run, "safe " + a, town.safe(a), model.safe(a)); }
            case 22 -> { a = aWalker(); check(run, "stuck " + a, town.stuck(a), model.stuck(a)); }
            case 23 -> { a = aLure(); n = near(1, 40); check(run, "best " + a + " " + n + " " + what, town.best(a, n, what), model.best(a, n, what)); }
            case 24 -> { a = aLure(); n = near(1, 40); check(run, "kind " + a + " " + n + " " + what, town.kind(a, n, what), model.kind(a, n, what)); }
            case 25 -> check(run, "cover " + what, town.cover(what), model.cover(what));
            case 26 -> { a = aWalker(); check(run, "hearts " + a, town.hearts(a), model.hearts(a)); }
            case 27 -> { a = aWalker(); check(run, "waries " + a, town.waries(a), model.waries(a)); }
            case 28 -> {
                a = aLure();
                b = aLure();
                n = oneOf(4) ? near(1, 20) : 1 + upTo(4);
                what = near(0, 2);
                check(run, "rests " + a + " " + b + " " + n + " " + what, town.rests(a, b, n, what), model.rests(a, b, n, what));
            }
            case 29 -> check(run, "ring " + what, town.ring(what), model.ring(what));
            case 30, 31 -> { n = near(0, 9999); a = aWalker(); check(run, "pence " + n + " " + a, town.pence(n, a), model.pence(n, a)); }
            case 32, 33, 34 -> note(run);
            case 35 -> check(run, "ruled " + what, town.ruled(what), model.ruled(what));
            case 36 -> { n = near(0, 60); check(run, "look " + n + " " + what, town.look(n, what), model.look(n, what)); }
            case 37 -> { a = oneOf(5) ? -upTo(3) : random.nextInt() >>> 1; check(run, "seed " + a, town.seed(a), model.seed(a)); }
            case 38 -> {
                a = near(1, 10);
                n = near(1, 60);
                b = near(0, 100);
                check(run, "nights " + a + " " + n + " " + b + " " + what, town.nights(a, n, b, what), model.nights(a, n, b, what));
            }
            case 39, 40 -> { a = near(0, 13); check(run, "count " + a, town.count(a), model.count(a)); }
            case 41 -> { a = near(0, 3); check(run, "image " + a, town.image(a), model.image(a)); }
            case 42 -> { a = near(0, 3); check(run, "back " + a, town.back(a), model.back(a)); }
            default -> { a = random.nextInt(); b = near(0, 400); check(run, "feed", town.feed(a, b, a, b, a), model.feed(a, b, a, b, a)); check(run, "end " + b, town.end(b), model.end(b)); }
        }
    }

    /** Often a note that is so, else all runs would end with notes that nothing can meet. */
    private void note(int run) {
        int n = oneOf(12) ? -1 : near(0, oneOf(3) ? 60 : 6);
        int walker = aWalker();
        int corner = aCorner();
        if (!oneOf(4) && n >= 0 && n <= 60 && model.isWalker(walker)) {
            corner = Model.after(model.told, model.ruleOf(upTo(model.rules.size()) - 1), n).walkers.get(walker).corner;
        }
        check(run, "note " + n + " " + walker + " " + corner, town.note(n, walker, corner), model.note(n, walker, corner));
    }
}
