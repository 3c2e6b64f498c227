import java.nio.charset.StandardCharsets;
import java.util.ArrayList;
import java.util.Arrays;
import java.util.List;
import java.util.TreeMap;

/** A second telling of the document, as plain as can be, that runs of random calls are held against. */
final class Model {
    static final class Fault extends RuntimeException {
        private static final long serialVersionUID = 1;
        final int number;

        Fault(int place, int sort) {
            super(null, null, false, false);
            number = 1 + 8 * place + sort;
        }
    }

    // ---- texts ----

    record Token(String sign, int place) {
        boolean isNumber() { return !sign.isEmpty() && Character.isDigit(sign.charAt(0)); }
    }

    static final class Tokens {
        final List<Token> all = new ArrayList<>();
        int at = 0;

        Tokens(String text) {
            int i = 0;
            while (i < text.length()) {
                char c = text.charAt(i);
                int j = i + 1;
                if (c == ' ') { i++; continue; }
                if (c >= '0' && c <= '9') while (j < text.length() && text.charAt(j) >= '0' && text.charAt(j) <= '9') j++;
                else if (c >= 'a' && c <= 'z') while (j < text.length() && text.charAt(j) >= 'a' && text.charAt(j) <= 'z') j++;
                else if ((c == '<' || c == '>') && j < text.length() && text.charAt(j) == '=') j++;
                all.add(new Token(text.substring(i, j), i));
                i = j;
            }
            all.add(new Token("", text.length()));
        }

        Token peek() { return all.get(at); }
        boolean sees(String... signs) { return Arrays.asList(signs).contains(peek().sign); }
        Fault fault(int sort) { return new Fault(peek().place, sort); }
        String take() { return all.get(at++).sign; }
        boolean takes(String sign) { if (sees(sign)) { at++; return true; } return false; }

        int number(int least, int most) {
            if (!peek().isNumber()) throw fault(0);
            String s = peek().sign;
            if (s.length() > 5 || Integer.parseInt(s) < least || Integer.parseInt(s) > most) throw fault(1);
            at++;
            return Integer.parseInt(s);
        }
    }

    // ---- the town ----

    static final class Lure implements Cloneable {
        int corner, kind, guile, charge;
        boolean set = true;
        Lure copy() { try { return (Lure) clone(); } catch (CloneNotSupportedException e) { throw new IllegalStateException(e); } }
    }

    static final class Walker implements Cloneable {
        int corner, home, heart, wary, charge;
        Walker copy() { try { return (Walker) clone(); } catch (CloneNotSupportedException e) { throw new IllegalStateException(e); } }
    }

    static final class World {
        int corners = 0;
        boolean[][] way = new boolean[0][0];
        List<Lure> lures = new ArrayList<>();
        List<Walker> walkers = new ArrayList<>();
        int step = 0;

        World copy() {
            World w = new World();
            w.corners = corners;
            w.way = way;
            for (Lure l : lures) w.lures.add(l.copy());
            for (Walker k : walkers) w.walkers.add(k.copy());
            w.step = step;
            return w;
        }

        boolean wouldHave(Lure l, Walker w) { return l.set && l.kind == w.heart && l.guile > w.wary; }

        int distance(int from, int to, int banned) {
            int[] d = new int[corners];
            Arrays.fill(d, -1);
            d[from] = 0;
            List<Integer> queue = new ArrayList<>(List.of(from));
            for (int i = 0; i < queue.size(); i++) {
                int c = queue.get(i);
                for (int e = 0; e < corners; e++) {
                    if (way[c][e] && d[e] < 0 && (banned >> e & 1) == 0) { d[e] = d[c] + 1; queue.add(e); }
                }
            }
            return d[to];
        }

        int charges() { return walkers.stream().mapToInt(w -> w.charge).sum(); }
        int setBits() { int b = 0; for (int i = 0; i < lures.size(); i++) if (lures.get(i).set) b |= 1 << i; return b; }

        /** Who is had by which, in order of walkers. */
        TreeMap<Integer, Integer> go(Rule rule) {
            int[] goal = new int[walkers.size()];
            for (int i = 0; i < goal.length; i++) goal[i] = rule == null ? homeward(walkers.get(i)) : ruled(rule, i);
            for (int i = 0; i < goal.length; i++) walkers.get(i).corner = goal[i];
            TreeMap<Integer, Integer> had = new TreeMap<>();
            for (int i = 0; i < goal.length; i++) {
                Walker w = walkers.get(i);
                for (int l = 0; l < lures.size() && !had.containsKey(i); l++) {
                    Lure lure = lures.get(l);
                    if (lure.corner == w.corner && wouldHave(lure, w)) {
                        lure.set = false;
                        w.charge = Math.min(999, w.charge + lure.charge);
                        w.wary = Math.min(9, w.wary + 1);
                        had.put(i, l);
                    }
                }
            }
            step++;
            return had;
        }

        int homeward(Walker w) {
            int d = distance(w.corner, w.home, 0);
            if (d <= 0) return w.corner;
            for (int c = 0; c < corners; c++) if (way[w.corner][c] && distance(c, w.home, 0) == d - 1) return c;
            throw new IllegalStateException();
        }

        int ruled(Rule rule, int walker) {
            Walker w = walkers.get(walker);
            int goal = w.corner;
            long most = 0;
            for (int c = corners - 1; c >= 0; c--) {
                if (c != w.corner && !way[w.corner][c]) continue;
                long worth = rule.worth(this, walker, c);
                if (worth > 0 && worth >= most) { most = worth; goal = c; }
            }
            return goal;
        }
    }

    static World readTown(String text) {
        Tokens t = new Tokens(text);
        World w = new World();
        for (int clause = 1; ; clause++) {
            if (!t.sees("town", "way", "lure", "walker")) throw t.fault(0);
            if (clause > 40 || clause == 1 && !t.sees("town") || clause > 1 && t.sees("town")
                    || t.sees("lure") && w.lures.size() == 6 || t.sees("walker") && w.walkers.size() == 5) throw t.fault(4);
            switch (t.take()) {
                case "town" -> { w.corners = t.number(2, 8); w.way = new boolean[w.corners][w.corners]; }
                case "way" -> {
                    int a = t.number(0, w.corners - 1);
                    int place = t.peek().place;
                    int b = t.number(0, w.corners - 1);
                    if (a == b) throw new Fault(place, 1);
                    w.way[a][b] = true;
                    w.way[b][a] = true;
                }
                case "lure" -> {
                    Lure l = new Lure();
                    l.corner = t.number(0, w.corners - 1);
                    l.kind = t.number(0, 7);
                    l.guile = t.number(1, 9);
                    l.charge = t.number(1, 20);
                    w.lures.add(l);
                }
                default -> {
                    Walker k = new Walker();
                    k.corner = t.number(0, w.corners - 1);
                    k.home = t.number(0, w.corners - 1);
                    k.heart = t.number(0, 7);
                    k.wary = t.number(0, 9);
                    w.walkers.add(k);
                }
            }
            if (t.takes("")) return w;
            if (!t.takes(";")) throw t.fault(0);
        }
    }

    // ---- rules ----

    interface Sum { long of(World w, int walker, int corner); }

    interface Test { boolean of(World w, int walker, int corner); }

    static final class Rule {
        final List<Sum> sums = new ArrayList<>();
        final List<Test> tests = new ArrayList<>();

        long worth(World w, int walker, int corner) {
            for (int i = 0; i < sums.size(); i++) if (tests.get(i).of(w, walker, corner)) return sums.get(i).of(w, walker, corner);
            return 0;
        }
    }

    static final class RuleParser {
        final Tokens t;
        int parts = 0;

        RuleParser(String text) { t = new Tokens(text); }

        Rule read() {
            Rule r = new Rule();
            for (int clause = 1; ; clause++) {
                if (!t.sees("go")) throw t.fault(0);
                if (clause > 12) throw t.fault(4);
                t.take();
                r.sums.add(sum());
                r.tests.add(t.takes("if") ? test(0) : (w, k, c) -> true);
                if (t.takes("")) return r;
                if (!t.takes(";")) throw t.fault(0);
            }
        }

        Test test(int depth) {
            Test one = part(depth);
            while (t.takes("or")) {
                Test a = one;
                Test b = part(depth);
                one = (w, k, c) -> a.of(w, k, c) || b.of(w, k, c);
            }
            return one;
        }

        Test part(int depth) {
            Test one = fact(depth);
            while (t.takes("and")) {
                Test a = one;
                Test b = fact(depth);
                one = (w, k, c) -> a.of(w, k, c) && b.of(w, k, c);
            }
            return one;
        }

        Test fact(int depth) {
            if (t.sees("not", "[") && depth == 10) throw t.fault(2);
            if (t.takes("not")) {
                Test a = fact(depth + 1);
                return (w, k, c) -> !a.of(w, k, c);
            }
            if (t.takes("[")) {
                Test a = test(depth + 1);
                if (!t.takes("]")) throw t.fault(0);
                return a;
            }
            Sum a = sum();
            if (!t.sees("<", "<=", "=", ">=", ">")) throw t.fault(0);
            part();
            String sign = t.take();
            Sum b = sum();
            return (w, k, c) -> {
                int order = Long.compare(a.of(w, k, c), b.of(w, k, c));
                return sign.contains("<") && order < 0 || sign.contains(">") && order > 0 || sign.contains("=") && order == 0;
            };
        }

        void part() { if (++parts > 60) throw t.fault(3); }

        Sum sum() {
            Sum one = term();
            while (t.sees("+", "-")) {
                boolean plus = t.take().equals("+");
                Sum a = one;
                Sum b = term();
                one = (w, k, c) -> plus ? a.of(w, k, c) + b.of(w, k, c) : a.of(w, k, c) - b.of(w, k, c);
            }
            return one;
        }

        Sum term() {
            Sum one = value();
            while (t.sees("*", "/", "%")) {
                String sign = t.take();
                Sum a = one;
                Sum b = value();
                one = (w, k, c) -> {
                    long x = a.of(w, k, c);
                    long y = b.of(w, k, c);
                    if (sign.equals("*")) return x * y;
                    return y == 0 ? 0 : sign.equals("/") ? x / y : x % y;
                };
            }
            return one;
        }

        Sum value() {
            String s = t.peek().sign;
            if (t.peek().isNumber()) {
                if (s.length() > 5) throw t.fault(1);
                part();
                t.take();
                long n = Long.parseLong(s);
                return (w, k, c) -> n;
            }
            Sum word = word(s);
            if (word == null) throw t.fault(0);
            part();
            t.take();
            return word;
        }

        static Sum word(String s) {
            return switch (s) {
                case "walker" -> (w, k, c) -> k;
                case "corner" -> (w, k, c) -> c;
                case "from" -> (w, k, c) -> w.walkers.get(k).corner;
                case "home" -> (w, k, c) -> { int d = w.distance(c, w.walkers.get(k).home, 0); return d < 0 ? 99 : d; };
                case "heart" -> (w, k, c) -> w.walkers.get(k).heart;
                case "wary" -> (w, k, c) -> w.walkers.get(k).wary;
                case "charge" -> (w, k, c) -> w.walkers.get(k).charge;
                case "lures" -> (w, k, c) -> w.lures.stream().filter(l -> l.set && l.corner == c).count();
                case "mine" -> (w, k, c) -> w.lures.stream().filter(l -> l.corner == c && w.wouldHave(l, w.walkers.get(k))).count();
                case "others" -> (w, k, c) -> w.walkers.stream().filter(o -> o != w.walkers.get(k) && o.corner == c).count();
                case "step" -> (w, k, c) -> w.step;
                default -> null;
            };
        }
    }

    // ---- the object ----

    record Note(int n, int walker, int corner) { }

    record Image(World told, World now, List<Note> notes, int force, long x) { }

    String tape = "";
    World told = new World();
    World now = new World();
    List<Note> notes = new ArrayList<>();
    final List<Rule> rules = new ArrayList<>();
    int force = -1;
    long x = 0;
    List<World> past = new ArrayList<>();
    final Image[] images = new Image[4];

    boolean isTown() { return now.corners > 0; }
    boolean isWalker(int w) { return w >= 0 && w < now.walkers.size(); }
    boolean isLure(int l) { return l >= 0 && l < now.lures.size(); }
    boolean isSet(int l) { return isLure(l) && now.lures.get(l).set; }
    boolean isCorner(int c) { return c >= 0 && c < now.corners; }
    static boolean in(int i, int least, int most) { return i >= least && i <= most; }
    Rule ruleOf(int r) { return r < 0 ? null : rules.get(r); }
    Rule inForce() { return ruleOf(force); }

    int feed(int... five) {
        if (tape.length() + 20 > 400) return -1;
        byte[] bytes = new byte[20];
        for (int i = 0; i < 20; i++) bytes[i] = (byte) (five[i / 4] >>> 24 - i % 4 * 8);
        tape += new String(bytes, StandardCharsets.ISO_8859_1);
        return tape.length();
    }

    int end(int n) {
        if (n < 0 || n > tape.length()) return -1;
        tape = tape.substring(0, n);
        return n;
    }

    int town() {
        try {
            told = readTown(tape);
        } catch (Fault f) {
            return -2 - f.number;
        }
        now = told.copy();
        tape = "";
        notes.clear();
        past.clear();
        return now.walkers.size();
    }

    int rule() {
        if (rules.size() == 6) return -1;
        String text = tape;
        tape = "";
        try {
            rules.add(new RuleParser(text).read());
        } catch (Fault f) {
            return -2 - f.number;
        }
        return rules.size() - 1;
    }

    int force(int r) {
        if (r < -1 || r >= rules.size()) return -2;
        int was = force;
        force = r;
        return was;
    }

    int lure(int l, int what) {
        if (!isLure(l) || !in(what, 0, 4)) return -1;
        Lure lure = now.lures.get(l);
        return new int[] {lure.corner, lure.kind, lure.guile, lure.charge, lure.set ? 1 : 0}[what];
    }

    int walker(int w, int what) {
        if (!isWalker(w) || !in(what, 0, 4)) return -1;
        Walker k = now.walkers.get(w);
        return new int[] {k.corner, k.home, k.heart, k.wary, k.charge}[what];
    }

    int ways(int c) {
        if (!isCorner(c)) return -1;
        int bits = 0;
        for (int i = 0; i < now.corners; i++) bits |= now.way[c][i] ? 1 << i : 0;
        return bits;
    }

    void act() {
        past.add(now.copy());
        if (past.size() > 20) past.remove(0);
    }

    static int bits(Iterable<Integer> them) {
        int bits = 0;
        for (int i : them) bits |= 1 << i;
        return bits;
    }

    int step() {
        if (!isTown() || now.step == 999) return -1;
        act();
        return bits(now.go(inForce()).keySet());
    }

    int set(int l, int c) {
        if (!isLure(l) || isSet(l) || !isCorner(c)) return -1;
        act();
        int was = now.lures.get(l).corner;
        now.lures.get(l).corner = c;
        now.lures.get(l).set = true;
        return was;
    }

    int move(int l, int c) {
        if (!isSet(l) || !isCorner(c) || now.lures.get(l).corner == c) return -1;
        act();
        int was = now.lures.get(l).corner;
        now.lures.get(l).corner = c;
        return was;
    }

    int bait(int l, int k) {
        if (!isLure(l) || !in(k, 0, 7) || now.lures.get(l).kind == k) return -1;
        act();
        int was = now.lures.get(l).kind;
        now.lures.get(l).kind = k;
        return was;
    }

    int calm(int w, int wary) {
        if (!isWalker(w) || !in(wary, 0, 9) || now.walkers.get(w).wary == wary) return -1;
        act();
        int was = now.walkers.get(w).wary;
        now.walkers.get(w).wary = wary;
        return was;
    }

    int undo() {
        if (past.isEmpty()) return -1;
        now = past.remove(past.size() - 1);
        return past.size();
    }

    static World after(World from, Rule rule, int n) {
        World w = from.copy();
        for (int i = 0; i < n; i++) w.go(rule);
        return w;
    }

    int ahead(int w, int n, int what) {
        if (!isTown() || !in(n, 0, 100) || !in(what, 0, 2) || what < 2 && !isWalker(w)) return -1;
        World then = after(now, inForce(), n);
        return what == 2 ? then.setBits() : what == 0 ? then.walkers.get(w).corner : then.walkers.get(w).charge;
    }

    int had(int w, int what) {
        if (!isWalker(w) || !in(what, 0, 1)) return -1;
        World then = now.copy();
        for (int i = 0; i < 200; i++) {
            TreeMap<Integer, Integer> had = then.go(inForce());
            if (had.containsKey(w)) return what == 0 ? now.step + i : had.get(w);
        }
        return -2;
    }

    int first(int what) {
        if (!isTown() || !in(what, 0, 1)) return -1;
        World then = now.copy();
        for (int i = 0; i < 200; i++) {
            TreeMap<Integer, Integer> had = then.go(inForce());
            if (!had.isEmpty()) return what == 0 ? now.step + i : had.firstKey();
        }
        return -2;
    }

    int far(int w) {
        if (!isWalker(w)) return -1;
        int d = now.distance(now.walkers.get(w).corner, now.walkers.get(w).home, 0);
        return d < 0 ? -2 : d;
    }

    int safe(int w) {
        if (!isWalker(w)) return -1;
        Walker k = now.walkers.get(w);
        int banned = 0;
        for (Lure l : now.lures) if (now.wouldHave(l, k)) banned |= 1 << l.corner;
        int d = now.distance(k.corner, k.home, banned);
        return d < 0 ? -2 : d;
    }

    /** All rows that pass no corner twice, each as bits, and what they have in common. */
    private int common(int at, int home, int passed) {
        if (at == home) return passed;
        int all = -1;
        for (int c = 0; c < now.corners; c++) {
            if (now.way[at][c] && (passed >> c & 1) == 0) all &= common(c, home, passed | 1 << c);
        }
        return all;
    }

    int stuck(int w) {
        if (!isWalker(w)) return -1;
        Walker k = now.walkers.get(w);
        int all = common(k.corner, k.home, 1 << k.corner);
        return all == -1 ? 0 : all;
    }

    int best(int l, int n, int what) {
        if (!isSet(l) || !in(n, 1, 40) || !in(what, 0, 1)) return -1;
        List<Integer> order = new ArrayList<>(List.of(now.lures.get(l).corner));
        for (int c = 0; c < now.corners; c++) order.add(c);
        int most = -1;
        int which = -1;
        for (int c : order) {
            World w = now.copy();
            w.lures.get(l).corner = c;
            int much = after(w, inForce(), n).charges();
            if (much > most) { most = much; which = c; }
        }
        return what == 0 ? which : most;
    }

    int kind(int l, int n, int what) {
        if (!isSet(l) || !in(n, 1, 40) || !in(what, 0, 1)) return -1;
        int[] much = new int[8];
        int most = -1;
        for (int k = 0; k < 8; k++) {
            World w = now.copy();
            w.lures.get(l).kind = k;
            much[k] = after(w, inForce(), n).charges();
            most = Math.max(most, much[k]);
        }
        if (what == 1) return most;
        if (much[now.lures.get(l).kind] == most) return now.lures.get(l).kind;
        for (int k = 0; k < 8; k++) if (much[k] == most) return k;
        throw new IllegalStateException();
    }

    int cover(int what) {
        if (!isTown() || !in(what, 0, 1)) return -1;
        for (int size = 0; ; size++) {
            next:
            for (int set = 0; set < 1 << now.corners; set++) {
                if (Integer.bitCount(set) != size) continue;
                for (int a = 0; a < now.corners; a++) {
                    for (int b = 0; b < a; b++) if (now.way[a][b] && (set >> a & 1) + (set >> b & 1) == 0) continue next;
                }
                return what == 0 ? size : set;
            }
        }
    }

    boolean notesAreSo(World begin, Rule rule) {
        for (Note note : notes) {
            if (after(begin, rule, note.n).walkers.get(note.walker).corner != note.corner) return false;
        }
        return true;
    }

    int hearts(int w) {
        if (!isWalker(w)) return -1;
        int bits = 0;
        for (int i = 0; i < 8; i++) {
            World begin = told.copy();
            begin.walkers.get(w).heart = i;
            if (notesAreSo(begin, inForce())) bits |= 1 << i;
        }
        return bits;
    }

    int waries(int w) {
        if (!isWalker(w)) return -1;
        int bits = 0;
        for (int i = 0; i < 10; i++) {
            World begin = told.copy();
            begin.walkers.get(w).wary = i;
            if (notesAreSo(begin, inForce())) bits |= 1 << i;
        }
        return bits;
    }

    int gain(World then, int l) {
        Lure lure = then.lures.get(l);
        if (!lure.set) return lure.charge;
        return then.walkers.stream().anyMatch(w -> w.corner == lure.corner) ? 1 : 0;
    }

    int rests(int one, int other, int n, int what) {
        if (!isSet(one) || !isSet(other) || one == other || !in(n, 1, 20) || !in(what, 0, 2)) return -1;
        int size = now.corners;
        int[][] p = new int[size][size];
        int[][] q = new int[size][size];
        for (int c = 0; c < size; c++) {
            for (int d = 0; d < size; d++) {
                World w = now.copy();
                w.lures.get(one).corner = c;
                w.lures.get(other).corner = d;
                w = after(w, inForce(), n);
                p[c][d] = gain(w, one);
                q[c][d] = gain(w, other);
            }
        }
        int many = 0;
        int[] found = null;
        for (int c = 0; c < size; c++) {
            for (int d = 0; d < size; d++) {
                boolean rest = true;
                for (int e = 0; e < size; e++) rest &= p[e][d] <= p[c][d] && q[c][e] <= q[c][d];
                if (rest) {
                    many++;
                    if (found == null) found = new int[] {c, d};
                }
            }
        }
        return what == 0 ? many : found == null ? -2 : found[what - 1];
    }

    int ring(int what) {
        if (!isTown() || !in(what, 0, 1)) return -1;
        List<World> all = new ArrayList<>();
        for (int i = 0; i <= 60; i++) all.add(i == 0 ? now.copy() : after(all.get(i - 1), inForce(), 1));
        for (int i = 0; i < 60; i++) {
            for (int j = i + 1; j <= 60; j++) {
                boolean same = all.get(i).setBits() == all.get(j).setBits();
                for (int w = 0; w < now.walkers.size(); w++) same &= all.get(i).walkers.get(w).corner == all.get(j).walkers.get(w).corner;
                if (same) return what == 0 ? now.step + i : j - i;
            }
        }
        return -2;
    }

    int pence(int much, int walker) {
        if (!in(much, 0, 9999) || !isWalker(walker)) return -1;
        int all = now.charges();
        if (all == 0) return 0;
        int size = now.walkers.size();
        int[] part = new int[size];
        List<Integer> order = new ArrayList<>();
        int left = much;
        for (int i = 0; i < size; i++) {
            part[i] = much * now.walkers.get(i).charge / all;
            left -= part[i];
            order.add(i);
        }
        order.sort((a, b) -> Integer.compare(much * now.walkers.get(b).charge - part[b] * all, much * now.walkers.get(a).charge - part[a] * all));
        for (int i = 0; i < left; i++) part[order.get(i)]++;
        return part[walker];
    }

    int note(int n, int w, int c) {
        if (n == -1) { notes.clear(); return 0; }
        if (!in(n, 0, 60) || !isWalker(w) || !isCorner(c) || notes.size() == 10) return -2;
        notes.add(new Note(n, w, c));
        return notes.size();
    }

    List<Integer> rulesSo() {
        List<Integer> so = new ArrayList<>();
        for (int r = -1; r < rules.size(); r++) if (notesAreSo(told, ruleOf(r))) so.add(r);
        return so;
    }

    int ruled(int what) {
        if (!isTown() || !in(what, 0, 1)) return -3;
        List<Integer> so = rulesSo();
        return what == 0 ? so.size() : so.isEmpty() ? -2 : so.get(0);
    }

    int look(int n, int what) {
        if (!isTown() || !in(n, 0, 60) || !in(what, 0, 1)) return -1;
        List<Integer> so = rulesSo();
        int who = -2;
        int fewest = Integer.MAX_VALUE;
        for (int w = 0; w < now.walkers.size() && !so.isEmpty(); w++) {
            TreeMap<Integer, Integer> heaps = new TreeMap<>();
            for (int r : so) heaps.merge(after(told, ruleOf(r), n).walkers.get(w).corner, 1, Integer::sum);
            int alike = heaps.values().stream().mapToInt(i -> i).max().getAsInt();
            if (alike < fewest) { fewest = alike; who = w; }
        }
        return who < 0 ? -2 : what == 0 ? who : fewest;
    }

    int seed(int s) {
        if (s < 0) return -1;
        int was = (int) x;
        x = s;
        return was;
    }

    long draw() {
        x = (x * 1103515245L + 12345L) % 2147483648L;
        return x / 65536;
    }

    int nights(int m, int n, int p, int what) {
        if (!isTown() || !in(m, 1, 10) || !in(n, 1, 60) || !in(p, 0, 100) || !in(what, 0, 1)) return -1;
        long kept = x;
        int sum = 0;
        for (int i = 0; i < m; i++) {
            World w = now.copy();
            for (int s = 0; s < n; s++) {
                if (draw() % 100 < p && !w.lures.isEmpty()) w.lures.get((int) (draw() % w.lures.size())).set = true;
                w.go(inForce());
            }
            sum += what == 0 ? w.charges() : Integer.bitCount(w.setBits());
        }
        x = kept;
        return sum;
    }

    int count(int what) {
        int ways = 0;
        for (int c = 0; c < now.corners; c++) ways += Integer.bitCount(ways(c));
        List<Integer> home = new ArrayList<>();
        for (int i = 0; i < now.walkers.size(); i++) if (now.walkers.get(i).corner == now.walkers.get(i).home) home.add(i);
        int[] all = {now.corners, ways / 2, now.lures.size(), now.walkers.size(), rules.size(), force, now.step, now.setBits(),
            bits(home), now.charges(), notes.size(), past.size(), (int) x, tape.length()};
        return in(what, 0, 13) ? all[what] : -1;
    }

    int image(int k) {
        if (!in(k, 0, 3)) return -1;
        images[k] = new Image(told, now.copy(), List.copyOf(notes), force, x);
        return now.step;
    }

    int back(int k) {
        if (!in(k, 0, 3) || images[k] == null) return -1;
        told = images[k].told;
        now = images[k].now.copy();
        notes = new ArrayList<>(images[k].notes);
        force = images[k].force;
        x = images[k].x;
        past.clear();
        return now.step;
    }
}
