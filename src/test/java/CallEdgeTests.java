import java.util.function.Supplier;
import java.util.function.ToIntFunction;

/**
 * The edges of the calls, promise by promise: what is refused, with the answer that is due, leaves all as it was, and so
 * does what is asked; each such call is made on one of two objects that are alike, and both must show the same then.
 */
public final class CallEdgeTests {
    private static final int[] FAR_OUT = {Integer.MIN_VALUE, -1000000, 1000000, Integer.MAX_VALUE};

    public static void main(String[] args) {
        newObject();
        calls512();
        feed();
        end();
        town();
        rule();
        force();
        lure();
        walker();
        ways();
        step();
        set();
        move();
        bait();
        calm();
        undo();
        ahead();
        had();
        first();
        farSafeStuck();
        bestAndKind();
        cover();
        heartsAndWaries();
        rests();
        ring();
        pence();
        note();
        ruled();
        look();
        seed();
        nights();
        count();
        image();
        back();
        Due.leave();
    }

    // ---- objects that are made alike ----

    /**
     * In the midst of things: STEP 2; lure 0 is sprung at 1, lure 1 set at 3 (kind 0, guile 9, charge 20), lure 2 set at 0 (kind
     * 5, guile 4); walker 0 at 2 (home 3, heart 0, wary 2, charge 3), walker 1 at 1 (home 0, heart 1, wary 4); rule 1 of two is in
     * force; two notes, five acts, images 1 and 3, and a text with a fault on the tape.
     */
    private static LureTown busy() {
        LureTown x = Due.townOf("town 4;way 0 1;way 1 2;way 2 3;lure 1 0 5 3;lure 3 0 9 20;lure 2 7 4 6;walker 0 3 0 1;walker 3 0 1 0");
        Due.rule(x, "go 0");
        Due.rule(x, "go 9 - home");
        x.force(1);
        x.seed(12345);
        x.note(1, 0, 1);
        x.note(2, 1, 1);
        x.image(1);
        x.step();
        x.bait(2, 5);
        x.calm(1, 4);
        x.move(2, 0);
        x.image(3);
        x.step();
        Due.tape(x, "town 3;lure 1 0 5 3;x");
        return x;
    }

    /** No town, but a rule in force, an image, x, and a text on the tape. */
    private static LureTown townless() {
        LureTown x = new LureTown();
        Due.rule(x, "go 1");
        x.force(0);
        x.image(2);
        x.seed(7);
        Due.tape(x, "town 2;walker 0 0 0 0");
        return x;
    }

    private static LureTown full() {
        LureTown x = busy();
        for (int i = 2; i < 6; i++) {
            Due.rule(x, "go " + i);
        }
        for (int i = 2; i < 10; i++) {
            x.note(0, 0, 0);
        }
        for (int i = 0; i < 20; i++) {
            x.calm(0, i % 2);
        }
        Due.tape(x, "go 1" + " ".repeat(386));
        return x;
    }

    private static void nothingHappens(String call, Supplier<LureTown> made, ToIntFunction<LureTown> act, int due) {
        LureTown x = made.get();
        Due.is(call, act.applyAsInt(x), due);
        Due.same("behind " + call, Sight.of(x), Sight.of(made.get()));
    }

    private static void busy(String call, int due, ToIntFunction<LureTown> act) {
        nothingHappens(call, CallEdgeTests::busy, act, due);
    }

    private static void townless(String call, int due, ToIntFunction<LureTown> act) {
        nothingHappens(call + " without a town", CallEdgeTests::townless, act, due);
        nothingHappens(call + " of a new object", LureTown::new, act, due);
    }

    // ---- the object ----

    private static void newObject() {
        Due.words("`LureTown()`: No TOWN, no RULES, none IN FORCE.");
        LureTown x = new LureTown();
        for (int what = 0; what <= 13; what++) {
            Due.is("count(" + what + ")", x.count(what), what == 5 ? -1 : 0);
        }
        Due.is("no rule 0", x.force(0), -2);
        Due.is("no town", x.step(), -1);
        Due.is("no text", x.town(), Due.fault(0, 0));
    }

    private static void calls512() {
        Due.words("An object is used for at most 512 calls after it has been made");
        LureTown x = new LureTown();
        // 'town 2;walker 0 0 0 0', then 508 calls to come
        x.feed(0x746f776e, 0x20323b77, 0x616c6b65, 0x72203020, 0x30203020);
        x.feed(0x30000000, 0, 0, 0, 0);
        x.end(21);
        Due.is("town", x.town(), 1);
        for (int i = 1; i <= 254; i++) {
            Due.is("step " + i, x.step(), 0);
            Due.is("STEP " + i, x.count(6), i);
        }
    }

    // ---- texts ----

    private static void feed() {
        Due.words("Twenty bytes come behind the TAPE, of each number the highest first: how many it has");
        LureTown x = new LureTown();
        Due.is("the first", x.feed(-1, 0, Integer.MIN_VALUE, Integer.MAX_VALUE, 1), 20);
        Due.is("the second", x.feed(0, 0, 0, 0, 0), 40);
        x.end(0);
        // 'town 2;way 0 1' by bytes, behind it blanks
        x.feed(0x746f776e, 0x20323b77, 0x61792030, 0x20312020, 0x20202020);
        Due.is("town", x.town(), 0);
        Due.is("the way", x.ways(0), 2);
        x.feed(0x20202020, 0x20202020, 0x20202020, 0x20202020, 0x20202080);
        Due.is("the lowest of the last is the last", x.town(), Due.fault(19, 0));
        x.end(0);
        x.feed(0x80202020, 0x20202020, 0x20202020, 0x20202020, 0x20202020);
        Due.is("the highest of the first is the first", x.town(), Due.fault(0, 0));

        Due.words("NONE, and none comes, if it would have more than 400.");
        for (int bytes : new int[] {381, 390, 399, 400}) {
            Supplier<LureTown> made = () -> {
                LureTown y = busy();
                Due.tape(y, "town 2" + " ".repeat(bytes - 7) + "x");
                return y;
            };
            nothingHappens("feed behind " + bytes, made, y -> y.feed(0, 0, 0, 0, 0), -1);
        }
        LureTown y = busy();
        Due.tape(y, "town 2" + " ".repeat(374));
        Due.is("380 and 20", y.feed(0x20202020, 0x20202020, 0x20202020, 0x20202020, 0x20202020), 400);
        Due.is("all are there", y.count(13), 400);
        Due.is("and none more", y.feed(0, 0, 0, 0, 0), -1);
        Due.is("it is a town", y.town(), 0);
    }

    private static void end() {
        Due.words("The TAPE has its first n bytes alone: n; NONE, and nothing happens, if it has not so many, or n is below 0.");
        LureTown x = new LureTown();
        Due.is("of none", x.end(0), 0);
        Due.is("one of none", x.end(1), -1);
        Due.tape(x, "town 22222");
        Due.is("all", x.end(10), 10);
        Due.is("one more", x.end(11), -1);
        Due.is("all are there", x.count(13), 10);
        Due.is("the first six", x.end(6), 6);
        Due.is("seven are gone", x.end(7), -1);
        Due.is("town", x.town(), 0);
        // bytes that are gone belong to no number, word or sign
        Due.tape(x, "go 1 if 1 <=1");
        x.end(11);
        Due.is("half a sign", x.rule(), Due.fault(11, 0));
        Due.tape(x, "go homes");
        x.end(7);
        Due.is("a word by its letters", x.rule(), 0);
        Due.tape(x, "town 2;walker 0 0 0 99");
        x.end(21);
        Due.is("a number by its digits", x.town(), 1);
        busy("end(22)", -1, y -> y.end(22));
        busy("end(21)", 21, y -> y.end(21));
        busy("end(-1)", -1, y -> y.end(-1));
        for (int n : FAR_OUT) {
            busy("end(" + n + ")", -1, y -> y.end(n));
            townless("end(" + n + ")", -1, y -> y.end(n));
        }
    }

    private static void town() {
        Due.words("The TAPE, which is empty then, is the TOWN in place of the one there was (no NOTES, nothing to be UNDONE; the RULE IN FORCE and x stay): how many WALKERS");
        LureTown x = busy();
        Due.is("town", Due.town(x, "town 2;walker 1 1 3 3"), 1);
        int[] counts = {2, 0, 0, 1, 2, 1, 0, 0, 1, 0, 0, 0, 12345, 0};
        for (int what = 0; what <= 13; what++) {
            Due.is("count(" + what + ")", x.count(what), counts[what]);
        }
        Due.is("nothing to be undone", x.undo(), -1);
        Due.is("no lure is left", x.lure(0, 0), -1);
        Due.is("no walker is left", x.walker(1, 0), -1);
        Due.is("no way is left", x.ways(0) + x.ways(1), 0);
        Due.is("no ways home", x.stuck(0), 2);
        Due.is("without walkers", Due.town(x, "town 2"), 0);

        Due.words("-2 - its FAULT, and all stays.");
        busy("town of a fault", Due.fault(20, 0), LureTown::town);
        nothingHappens("town of no tape", LureTown::new, LureTown::town, Due.fault(0, 0));
        Supplier<LureTown> late = () -> {
            LureTown y = busy();
            Due.tape(y, "town 8;way 0 7;lure 7 7 9 20;walker 7 0 7 9;walker 7 8 0 0");
            return y;
        };
        nothingHappens("town of a late fault", late, LureTown::town, Due.fault(53, 1));
        // and nothing of a text with a fault is in the next one
        LureTown z = late.get();
        z.town();
        Due.is("another text", Due.town(z, "town 8;way 1 2;walker 1 2 0 0"), 1);
        int[] anew = {8, 1, 0, 1, 2, 1, 0, 0, 0, 0, 0, 0, 12345, 0};
        for (int what = 0; what <= 13; what++) {
            Due.is("anew count(" + what + ")", z.count(what), anew[what]);
        }
        Due.is("no way of the other", z.ways(0) + z.ways(7), 0);
    }

    private static void rule() {
        Due.words("The TAPE, which is empty then, is a RULE: its number; -2 - its FAULT");
        LureTown x = busy();
        Due.is("the third", Due.rule(x, "go 1"), 2);
        Due.is("empty", x.count(13), 0);
        Due.is("in force as before", x.count(5), 1);
        Due.is("a fault", Due.rule(x, "go 1;"), Due.fault(5, 0));
        Due.is("empty", x.count(13), 0);
        Due.is("no rule of that", x.count(4), 3);
        Due.is("no tape", x.rule(), Due.fault(0, 0));
        Due.is("the fourth", Due.rule(x, "go 1"), 3);
        // but for the tape all is as it was
        LureTown y = busy();
        LureTown z = busy();
        Due.rule(y, "go x");
        z.end(0);
        Due.same("behind a fault", Sight.of(y), Sight.of(z));
        // and nothing of a text with a fault is in the next one: not its clauses, its depth, its brackets, its parts
        x = Due.townOf("town 3;way 0 1;way 0 2;walker 0 0 0 0");
        Due.rule(x, "go 9 if corner=1;go 9 if corner=1;" + "go 1 if [[[[[[[[[[1=1" + "+1".repeat(50));
        Due.is("as deep", Due.rule(x, "go 5 if [[[[[[[[[[corner=2]]]]]]]]]]"), 0);
        Due.rule(x, "go 9 if corner=1;" + "go 1 if 1" + "+1".repeat(40) + "!");
        Due.is("as many", Due.rule(x, "go 1" + "+1".repeat(58) + "+corner"), 1);
        Due.rule(x, "go 9 if corner=1;go 2*[");
        Due.is("as plain", Due.rule(x, "go corner"), 2);
        Due.rule(x, "go 9 if corner=1 or not");
        Due.rule(x, "go 9 if not");
        Due.is("as straight", Due.rule(x, "go corner"), 3);
        Due.rule(x, "go 9 if not corner=1 and x");
        Due.is("as short", Due.rule(x, "go corner if 1=1"), 4);
        for (int r = 0; r < 5; r++) {
            x.force(r);
            Due.is("to 2 by rule " + r, x.ahead(0, 1, 0), 2);
        }

        Due.words("NONE, and nothing happens: there are 6.");
        nothingHappens("a seventh", CallEdgeTests::full, LureTown::rule, -1);
        Supplier<LureTown> wrong = () -> {
            LureTown f = full();
            Due.tape(f, "no rule");
            return f;
        };
        nothingHappens("a seventh with a fault", wrong, LureTown::rule, -1);
    }

    private static void force() {
        Due.words("A RULE is IN FORCE (NONE: none): which was; -2, and nothing happens, if there is none such.");
        LureTown x = busy();
        Due.is("none", x.force(-1), 1);
        Due.is("none again", x.force(-1), -1);
        Due.is("the first", x.force(0), -1);
        Due.is("the last", x.force(1), 0);
        Due.is("force is no act", x.count(11), 5);
        busy("force(2)", -2, y -> y.force(2));
        busy("force(-2)", -2, y -> y.force(-2));
        busy("the one in force", 1, y -> y.force(1));
        nothingHappens("force(6)", CallEdgeTests::full, y -> y.force(6), -2);
        nothingHappens("force(0) of a new object", LureTown::new, y -> y.force(0), -2);
        nothingHappens("force(-1) of a new object", LureTown::new, y -> y.force(-1), -1);
        nothingHappens("force(1) without a town", CallEdgeTests::townless, y -> y.force(1), -2);
        for (int rule : FAR_OUT) {
            busy("force(" + rule + ")", -2, y -> y.force(rule));
        }
    }

    // ---- how all is ----

    private static void lure() {
        Due.words("Of a LURE what 0: CORNER, 1: KIND, 2: GUILE, 3: CHARGE, 4: 1 if it is SET, else 0. NONE without these.");
        int[][] rows = {{1, 0, 5, 3, 0}, {3, 0, 9, 20, 1}, {0, 5, 4, 6, 1}};
        LureTown x = busy();
        for (int i = 0; i < 3; i++) {
            for (int what = 0; what < 5; what++) {
                Due.is("lure(" + i + ", " + what + ")", x.lure(i, what), rows[i][what]);
            }
            Due.is("lure(" + i + ", -1)", x.lure(i, -1), -1);
            Due.is("lure(" + i + ", 5)", x.lure(i, 5), -1);
        }
        busy("lure(-1, 0)", -1, y -> y.lure(-1, 0));
        busy("lure(3, 0)", -1, y -> y.lure(3, 0));
        busy("lure(0, 4)", 0, y -> y.lure(0, 4));
        for (int out : FAR_OUT) {
            busy("lure(" + out + ", 0)", -1, y -> y.lure(out, 0));
            busy("lure(0, " + out + ")", -1, y -> y.lure(0, out));
        }
        townless("lure(0, 0)", -1, y -> y.lure(0, 0));
    }

    private static void walker() {
        Due.words("Of a WALKER what 0: CORNER, 1: HOME, 2: HEART, 3: WARY, 4: CHARGE. NONE without these.");
        int[][] rows = {{2, 3, 0, 2, 3}, {1, 0, 1, 4, 0}};
        LureTown x = busy();
        for (int i = 0; i < 2; i++) {
            for (int what = 0; what < 5; what++) {
                Due.is("walker(" + i + ", " + what + ")", x.walker(i, what), rows[i][what]);
            }
            Due.is("walker(" + i + ", -1)", x.walker(i, -1), -1);
            Due.is("walker(" + i + ", 5)", x.walker(i, 5), -1);
        }
        busy("walker(-1, 0)", -1, y -> y.walker(-1, 0));
        busy("walker(2, 0)", -1, y -> y.walker(2, 0));
        for (int out : FAR_OUT) {
            busy("walker(" + out + ", 0)", -1, y -> y.walker(out, 0));
            busy("walker(0, " + out + ")", -1, y -> y.walker(0, out));
        }
        townless("walker(0, 0)", -1, y -> y.walker(0, 0));
    }

    private static void ways() {
        Due.words("CORNERS that a WAY joins to a CORNER, as bits; NONE without it.");
        int[] due = {2, 5, 10, 4, -1};
        for (int i = 0; i < 5; i++) {
            int corner = i;
            busy("ways(" + i + ")", due[i], y -> y.ways(corner));
        }
        busy("ways(-1)", -1, y -> y.ways(-1));
        for (int out : FAR_OUT) {
            busy("ways(" + out + ")", -1, y -> y.ways(out));
        }
        townless("ways(0)", -1, y -> y.ways(0));
    }

    // ---- acts ----

    private static void step() {
        Due.words("A STEP: WALKERS who are HAD in it, as bits; NONE, and nothing happens, without a TOWN, or in STEP 999.");
        LureTown x = busy();
        Due.is("walker 0 is had", x.step(), 1);
        Due.is("nobody is", x.step(), 0);
        Due.is("without walkers", Due.townOf("town 2").step(), 0);
        x = Due.townOf("town 2" + ";lure 0 0 9 1".repeat(5) + ";walker 0 0 0 0".repeat(5));
        Due.is("all five", x.step(), 31);
        townless("step", -1, LureTown::step);
        // beyond 512 calls, which alone lead there
        Supplier<LureTown> last = () -> {
            LureTown y = busy();
            for (int i = 2; i < 999; i++) {
                y.step();
            }
            return y;
        };
        nothingHappens("step in STEP 999", last, LureTown::step, -1);
    }

    private static void set() {
        Due.words("SET (a LURE that is SPRUNG is SET at a CORNER)");
        for (int i = 0; i < 4; i++) {
            LureTown x = busy();
            Due.is("set(0, " + i + ")", x.set(0, i), 1);
            Due.is("it lies there", x.lure(0, 0), i);
            Due.is("it is set", x.lure(0, 4), 1);
            Due.is("an act", x.count(11), 6);
            Due.is("no more", x.set(0, i), -1);
            Due.is("undone", x.undo(), 5);
            Due.is("it lies where it lay", x.lure(0, 0) * 10 + x.lure(0, 4), 10);
        }

        Due.words("SET: where it lay; NONE, and nothing happens, without these.");
        busy("a lure that is set", -1, y -> y.set(1, 0));
        busy("a lure that is set, where it lies", -1, y -> y.set(1, 3));
        busy("set(3, 0)", -1, y -> y.set(3, 0));
        busy("set(-1, 0)", -1, y -> y.set(-1, 0));
        busy("set(0, 4)", -1, y -> y.set(0, 4));
        busy("set(0, -1)", -1, y -> y.set(0, -1));
        for (int out : FAR_OUT) {
            busy("set(0, " + out + ")", -1, y -> y.set(0, out));
            busy("set(" + out + ", 0)", -1, y -> y.set(out, 0));
        }
        townless("set(0, 0)", -1, y -> y.set(0, 0));
    }

    private static void move() {
        Due.words("MOVE (a LURE that is SET lies at another CORNER)");
        for (int i = 0; i < 3; i++) {
            LureTown x = busy();
            Due.is("move(1, " + i + ")", x.move(1, i), 3);
            Due.is("it lies there", x.lure(1, 0), i);
            Due.is("an act", x.count(11), 6);
            Due.is("not to the same", x.move(1, i), -1);
            Due.is("undone", x.undo(), 5);
            Due.is("it lies where it lay", x.lure(1, 0), 3);
        }

        Due.words("MOVE: where it lay; NONE, and nothing happens, without these.");
        busy("where it lies", -1, y -> y.move(1, 3));
        busy("a sprung one", -1, y -> y.move(0, 0));
        busy("a sprung one where it lies", -1, y -> y.move(0, 1));
        busy("move(3, 0)", -1, y -> y.move(3, 0));
        busy("move(-1, 0)", -1, y -> y.move(-1, 0));
        busy("move(1, 4)", -1, y -> y.move(1, 4));
        busy("move(1, -1)", -1, y -> y.move(1, -1));
        for (int out : FAR_OUT) {
            busy("move(1, " + out + ")", -1, y -> y.move(1, out));
            busy("move(" + out + ", 0)", -1, y -> y.move(out, 0));
        }
        townless("move(0, 0)", -1, y -> y.move(0, 0));
    }

    private static void bait() {
        Due.words("BAIT (a LURE has another KIND, 0 to 7)");
        for (int lure = 0; lure < 3; lure++) {
            int till = lure == 2 ? 5 : 0;
            for (int kind = 0; kind <= 7; kind++) {
                LureTown x = busy();
                Due.is("bait(" + lure + ", " + kind + ")", x.bait(lure, kind), kind == till ? -1 : till);
                Due.is("its kind", x.lure(lure, 1), kind);
                Due.is("an act", x.count(11), kind == till ? 5 : 6);
            }
        }

        Due.words("BAIT: its KIND till then; NONE, and nothing happens, without these (another one).");
        busy("the same", -1, y -> y.bait(2, 5));
        busy("bait(1, 8)", -1, y -> y.bait(1, 8));
        busy("bait(1, -1)", -1, y -> y.bait(1, -1));
        busy("bait(3, 1)", -1, y -> y.bait(3, 1));
        busy("bait(-1, 1)", -1, y -> y.bait(-1, 1));
        for (int out : FAR_OUT) {
            busy("bait(1, " + out + ")", -1, y -> y.bait(1, out));
            busy("bait(" + out + ", 1)", -1, y -> y.bait(out, 1));
        }
        townless("bait(0, 1)", -1, y -> y.bait(0, 1));
    }

    private static void calm() {
        Due.words("CALM (a WALKER is otherwise WARY, 0 to 9)");
        for (int wary = 0; wary <= 9; wary++) {
            LureTown x = busy();
            Due.is("calm(1, " + wary + ")", x.calm(1, wary), wary == 4 ? -1 : 4);
            Due.is("wary", x.walker(1, 3), wary);
            Due.is("an act", x.count(11), wary == 4 ? 5 : 6);
        }

        Due.words("CALM: how WARY they were; NONE, and nothing happens, without these (otherwise).");
        busy("the same", -1, y -> y.calm(1, 4));
        busy("calm(1, 10)", -1, y -> y.calm(1, 10));
        busy("calm(1, -1)", -1, y -> y.calm(1, -1));
        busy("calm(2, 1)", -1, y -> y.calm(2, 1));
        busy("calm(-1, 1)", -1, y -> y.calm(-1, 1));
        for (int out : FAR_OUT) {
            busy("calm(1, " + out + ")", -1, y -> y.calm(1, out));
            busy("calm(" + out + ", 1)", -1, y -> y.calm(out, 1));
        }
        townless("calm(0, 1)", -1, y -> y.calm(0, 1));
    }

    private static void undo() {
        Due.words("The last 20 can be UNDONE, the last first.");
        LureTown x = Due.townOf("town 2;way 0 1;lure 0 0 9 1;walker 0 1 0 9");
        int[] wary = new int[26];
        wary[0] = 9;
        for (int i = 1; i <= 25; i++) {
            wary[i] = i % 9;
            x.calm(0, wary[i]);
            Due.is("acts", x.count(11), Math.min(i, 20));
        }
        for (int i = 24; i >= 5; i--) {
            Due.is("undo", x.undo(), i - 5);
            Due.is("wary", x.walker(0, 3), wary[i]);
        }
        Due.is("no more", x.undo(), -1);
        Due.is("wary as behind the fifth", x.walker(0, 3), wary[5]);
        // room for twenty more, and what was undone is gone
        x.step();
        Due.is("one", x.count(11), 1);
        Due.is("undone", x.undo(), 0);
        Due.is("STEP", x.count(6), 0);

        Due.words("The last ACT is UNDONE: how many more can be; NONE, and nothing happens: none can.");
        Supplier<LureTown> undone = () -> {
            LureTown y = busy();
            for (int i = 4; i >= 0; i--) {
                Due.is("undo", y.undo(), i);
            }
            return y;
        };
        nothingHappens("a sixth", undone, LureTown::undo, -1);
        Due.is("all as told", undone.get().ahead(0, 0, 2), 7);
        nothingHappens("behind back", () -> {
            LureTown y = busy();
            y.back(3);
            return y;
        }, LureTown::undo, -1);
        nothingHappens("behind town", () -> {
            LureTown y = busy();
            Due.town(y, "town 2;walker 0 0 0 0");
            return y;
        }, LureTown::undo, -1);
        nothingHappens("of twenty the last", () -> {
            LureTown y = full();
            for (int i = 0; i < 20; i++) {
                y.undo();
            }
            return y;
        }, LureTown::undo, -1);
        townless("undo", -1, LureTown::undo);
    }

    // ---- what is asked ----

    private static void ahead() {
        Due.words("AHEAD what 0: CORNER, 1: CHARGE, 2: LURES (walker is not asked). NONE without these, or a TOWN.");
        int[][] due = {{2, 3, 6}, {3, 23, 4}, {3, 23, 4}};
        for (int i = 0; i < 3; i++) {
            for (int j = 0; j < 3; j++) {
                int n = i == 2 ? 100 : i;
                int what = j;
                busy("ahead(0, " + n + ", " + what + ")", due[i][j], y -> y.ahead(0, n, what));
            }
        }
        for (int what = 0; what <= 2; what++) {
            int w = what;
            busy("n -1, what " + what, -1, y -> y.ahead(0, -1, w));
            busy("n 101, what " + what, -1, y -> y.ahead(0, 101, w));
            busy("walker 2, what " + what, what == 2 ? 4 : -1, y -> y.ahead(2, 1, w));
            busy("walker -1, what " + what, what == 2 ? 4 : -1, y -> y.ahead(-1, 1, w));
            for (int out : FAR_OUT) {
                busy("n " + out + ", what " + what, -1, y -> y.ahead(0, out, w));
                busy("walker " + out + ", what " + what, what == 2 ? 4 : -1, y -> y.ahead(out, 1, w));
            }
            townless("ahead, what " + what, -1, y -> y.ahead(0, 0, w));
        }
        busy("what -1", -1, y -> y.ahead(0, 1, -1));
        busy("what 3", -1, y -> y.ahead(0, 1, 3));
    }

    private static void had() {
        Due.words("HAD what 0: the STEP, 1: by which; -2: in none of these. NONE without these.");
        busy("had(0, 0)", 2, y -> y.had(0, 0));
        busy("had(0, 1)", 1, y -> y.had(0, 1));
        busy("had(1, 0)", -2, y -> y.had(1, 0));
        busy("had(1, 1)", -2, y -> y.had(1, 1));
        busy("had(2, 0)", -1, y -> y.had(2, 0));
        busy("had(-1, 1)", -1, y -> y.had(-1, 1));
        busy("had(0, 2)", -1, y -> y.had(0, 2));
        busy("had(0, -1)", -1, y -> y.had(0, -1));
        busy("had(1, 2)", -1, y -> y.had(1, 2));
        for (int out : FAR_OUT) {
            busy("had(" + out + ", 0)", -1, y -> y.had(out, 0));
            busy("had(0, " + out + ")", -1, y -> y.had(0, out));
        }
        townless("had(0, 0)", -1, y -> y.had(0, 0));
    }

    private static void first() {
        Due.words("FIRST what 0: the STEP, 1: who; -2: in none of these. NONE for others, or without a TOWN.");
        busy("first(0)", 2, y -> y.first(0));
        busy("first(1)", 0, y -> y.first(1));
        busy("first(2)", -1, y -> y.first(2));
        busy("first(-1)", -1, y -> y.first(-1));
        for (int out : FAR_OUT) {
            busy("first(" + out + ")", -1, y -> y.first(out));
        }
        townless("first(0)", -1, y -> y.first(0));
        for (int what = 0; what <= 1; what++) {
            Due.is("without walkers", Due.townOf("town 2;lure 0 0 9 1").first(what), -2);
            Due.is("without lures", Due.townOf("town 2;walker 0 0 0 0").first(what), -2);
        }
        Due.is("others in a town without walkers", Due.townOf("town 2").first(2), -1);
    }

    private static void farSafeStuck() {
        Due.words("FAR; -2: there is no row; NONE without that WALKER.");
        busy("far(0)", 1, y -> y.far(0));
        busy("far(2)", -1, y -> y.far(2));
        busy("far(-1)", -1, y -> y.far(-1));
        townless("far(0)", -1, y -> y.far(0));
        Due.is("no row", Due.townOf("town 2;walker 0 1 0 0").far(0), -2);

        Due.words("SAFE; -2: there is none; NONE without that WALKER.");
        busy("safe(0)", -2, y -> y.safe(0));
        busy("safe(1)", 1, y -> y.safe(1));
        busy("safe(2)", -1, y -> y.safe(2));
        busy("safe(-1)", -1, y -> y.safe(-1));
        townless("safe(0)", -1, y -> y.safe(0));
        Due.is("no row at all", Due.townOf("town 2;walker 0 1 0 0").safe(0), -2);

        Due.words("STUCK, as bits; NONE without that WALKER.");
        busy("stuck(0)", 12, y -> y.stuck(0));
        busy("stuck(1)", 3, y -> y.stuck(1));
        busy("stuck(2)", -1, y -> y.stuck(2));
        busy("stuck(-1)", -1, y -> y.stuck(-1));
        townless("stuck(0)", -1, y -> y.stuck(0));
        for (int out : FAR_OUT) {
            busy("far(" + out + ")", -1, y -> y.far(out));
            busy("safe(" + out + ")", -1, y -> y.safe(out));
            busy("stuck(" + out + ")", -1, y -> y.stuck(out));
        }
    }

    private static void bestAndKind() {
        Due.words("BEST what 0: which, 1: how much. NONE without these (SET).");
        busy("best(1, 1, 0)", 3, y -> y.best(1, 1, 0));
        busy("best(1, 40, 1)", 23, y -> y.best(1, 40, 1));
        busy("best of a sprung one", -1, y -> y.best(0, 1, 0));
        busy("best(3, 1, 0)", -1, y -> y.best(3, 1, 0));
        busy("best(-1, 1, 0)", -1, y -> y.best(-1, 1, 0));
        busy("best(1, 0, 0)", -1, y -> y.best(1, 0, 0));
        busy("best(1, 41, 0)", -1, y -> y.best(1, 41, 0));
        busy("best(1, 1, -1)", -1, y -> y.best(1, 1, -1));
        busy("best(1, 1, 2)", -1, y -> y.best(1, 1, 2));
        townless("best(0, 1, 0)", -1, y -> y.best(0, 1, 0));

        Due.words("KIND what 0: which, 1: how much. NONE without these (SET).");
        busy("kind(2, 1, 0)", 5, y -> y.kind(2, 1, 0));
        busy("kind(2, 40, 1)", 23, y -> y.kind(2, 40, 1));
        busy("kind of a sprung one", -1, y -> y.kind(0, 1, 0));
        busy("kind(3, 1, 0)", -1, y -> y.kind(3, 1, 0));
        busy("kind(-1, 1, 0)", -1, y -> y.kind(-1, 1, 0));
        busy("kind(1, 0, 0)", -1, y -> y.kind(1, 0, 0));
        busy("kind(1, 41, 0)", -1, y -> y.kind(1, 41, 0));
        busy("kind(1, 1, -1)", -1, y -> y.kind(1, 1, -1));
        busy("kind(1, 1, 2)", -1, y -> y.kind(1, 1, 2));
        townless("kind(0, 1, 0)", -1, y -> y.kind(0, 1, 0));
        for (int out : FAR_OUT) {
            busy("best(" + out + ", 1, 0)", -1, y -> y.best(out, 1, 0));
            busy("best(1, " + out + ", 0)", -1, y -> y.best(1, out, 0));
            busy("best(1, 1, " + out + ")", -1, y -> y.best(1, 1, out));
            busy("kind(" + out + ", 1, 0)", -1, y -> y.kind(out, 1, 0));
            busy("kind(1, " + out + ", 0)", -1, y -> y.kind(1, out, 0));
            busy("kind(1, 1, " + out + ")", -1, y -> y.kind(1, 1, out));
        }
    }

    private static void cover() {
        Due.words("COVER what 0: how many, 1: the set. NONE for others, or without a TOWN.");
        busy("cover(0)", 2, y -> y.cover(0));
        busy("cover(1)", 5, y -> y.cover(1));
        busy("cover(2)", -1, y -> y.cover(2));
        busy("cover(-1)", -1, y -> y.cover(-1));
        townless("cover(0)", -1, y -> y.cover(0));
        for (int out : FAR_OUT) {
            busy("cover(" + out + ")", -1, y -> y.cover(out));
        }
    }

    private static void heartsAndWaries() {
        Due.words("HEARTS, as bits; NONE without that WALKER.");
        busy("hearts(0)", 255, y -> y.hearts(0));
        busy("hearts(1)", 255, y -> y.hearts(1));
        busy("hearts(2)", -1, y -> y.hearts(2));
        busy("hearts(-1)", -1, y -> y.hearts(-1));
        townless("hearts(0)", -1, y -> y.hearts(0));

        Due.words("WARIES, as bits; NONE without that WALKER.");
        busy("waries(0)", 1023, y -> y.waries(0));
        busy("waries(1)", 1023, y -> y.waries(1));
        busy("waries(2)", -1, y -> y.waries(2));
        busy("waries(-1)", -1, y -> y.waries(-1));
        townless("waries(0)", -1, y -> y.waries(0));
        for (int out : FAR_OUT) {
            busy("hearts(" + out + ")", -1, y -> y.hearts(out));
            busy("waries(" + out + ")", -1, y -> y.waries(out));
        }
    }

    private static void rests() {
        Due.words("RESTS what 0: how many, 1, 2: CORNERS of the first (-2: there is none). NONE without these (unlike, SET).");
        busy("rests(1, 2, 1, 0)", 2, y -> y.rests(1, 2, 1, 0));
        busy("rests(1, 2, 20, 1)", 3, y -> y.rests(1, 2, 20, 1));
        busy("rests(1, 2, 1, 2)", 0, y -> y.rests(1, 2, 1, 2));
        busy("rests(2, 1, 1, 2)", 3, y -> y.rests(2, 1, 1, 2));
        busy("alike", -1, y -> y.rests(1, 1, 1, 0));
        busy("the first is sprung", -1, y -> y.rests(0, 1, 1, 0));
        busy("the second is sprung", -1, y -> y.rests(1, 0, 1, 0));
        busy("no such first", -1, y -> y.rests(3, 1, 1, 0));
        busy("no such second", -1, y -> y.rests(1, 3, 1, 0));
        busy("no such first", -1, y -> y.rests(-1, 1, 1, 0));
        busy("no such second", -1, y -> y.rests(1, -1, 1, 0));
        busy("n 0", -1, y -> y.rests(1, 2, 0, 0));
        busy("n 21", -1, y -> y.rests(1, 2, 21, 0));
        busy("what -1", -1, y -> y.rests(1, 2, 1, -1));
        busy("what 3", -1, y -> y.rests(1, 2, 1, 3));
        townless("rests(0, 1, 1, 0)", -1, y -> y.rests(0, 1, 1, 0));
        for (int out : FAR_OUT) {
            busy("first " + out, -1, y -> y.rests(out, 2, 1, 0));
            busy("second " + out, -1, y -> y.rests(1, out, 1, 0));
            busy("n " + out, -1, y -> y.rests(1, 2, out, 0));
            busy("what " + out, -1, y -> y.rests(1, 2, 1, out));
        }
    }

    private static void ring() {
        Due.words("RING what 0: the STEP, 1: how much later; -2: there is none. NONE for others, or without a TOWN.");
        busy("ring(0)", 3, y -> y.ring(0));
        busy("ring(1)", 1, y -> y.ring(1));
        busy("ring(2)", -1, y -> y.ring(2));
        busy("ring(-1)", -1, y -> y.ring(-1));
        townless("ring(0)", -1, y -> y.ring(0));
        for (int out : FAR_OUT) {
            busy("ring(" + out + ")", -1, y -> y.ring(out));
        }
    }

    private static void pence() {
        Due.words("PENCE of a WALKER; NONE without these.");
        busy("pence(9999, 0)", 9999, y -> y.pence(9999, 0));
        busy("pence(0, 0)", 0, y -> y.pence(0, 0));
        busy("pence(100, 1)", 0, y -> y.pence(100, 1));
        busy("pence(10000, 0)", -1, y -> y.pence(10000, 0));
        busy("pence(-1, 0)", -1, y -> y.pence(-1, 0));
        busy("pence(1, 2)", -1, y -> y.pence(1, 2));
        busy("pence(1, -1)", -1, y -> y.pence(1, -1));
        townless("pence(0, 0)", -1, y -> y.pence(0, 0));
        for (int out : FAR_OUT) {
            busy("pence(" + out + ", 0)", -1, y -> y.pence(out, 0));
            busy("pence(1, " + out + ")", -1, y -> y.pence(1, out));
        }
    }

    // ---- notes ----

    private static void note() {
        Due.words("A NOTE (n NONE: there are none then, 0): how many");
        LureTown x = busy();
        Due.is("a third", x.note(0, 1, 3), 3);
        Due.is("a note is no act", x.count(11), 5);
        Due.is("none then", x.note(-1, 0, 0), 0);
        Due.is("no notes", x.count(10), 0);
        Due.is("none again", x.note(-1, Integer.MIN_VALUE, Integer.MAX_VALUE), 0);
        Due.is("the first", x.note(60, 0, 3), 1);
        x = full();
        Due.is("of ten none", x.note(-1, 9, 9), 0);
        for (int i = 1; i <= 10; i++) {
            Due.is("note " + i, x.note(i, 0, 0), i);
        }
        nothingHappens("none of a new object", LureTown::new, y -> y.note(-1, 0, 0), 0);

        Due.words("-2, and nothing happens, without these, or if there are 10.");
        busy("n -2", -2, y -> y.note(-2, 0, 0));
        busy("n 61", -2, y -> y.note(61, 0, 0));
        busy("walker 2", -2, y -> y.note(0, 2, 0));
        busy("walker -1", -2, y -> y.note(0, -1, 0));
        busy("corner 4", -2, y -> y.note(0, 0, 4));
        busy("corner -1", -2, y -> y.note(0, 0, -1));
        for (int out : FAR_OUT) {
            busy("n " + out, -2, y -> y.note(out, 0, 0));
            busy("walker " + out, -2, y -> y.note(0, out, 0));
            busy("corner " + out, -2, y -> y.note(0, 0, out));
        }
        nothingHappens("an eleventh", CallEdgeTests::full, y -> y.note(0, 0, 0), -2);
        nothingHappens("an eleventh that is none", CallEdgeTests::full, y -> y.note(61, 0, 0), -2);
        townless("note(0, 0, 0)", -2, y -> y.note(0, 0, 0));
        Due.is("without walkers", Due.townOf("town 2").note(0, 0, 0), -2);
    }

    private static void ruled() {
        Due.words("RULED what 0: how many, 1: the first (NONE: none; -2: there is none such). -3 for others, or without a TOWN.");
        busy("ruled(0)", 2, y -> y.ruled(0));
        busy("ruled(1)", -1, y -> y.ruled(1));
        busy("ruled(2)", -3, y -> y.ruled(2));
        busy("ruled(-1)", -3, y -> y.ruled(-1));
        for (int what = -1; what <= 2; what++) {
            int w = what;
            townless("ruled(" + what + ")", -3, y -> y.ruled(w));
        }
        for (int out : FAR_OUT) {
            busy("ruled(" + out + ")", -3, y -> y.ruled(out));
        }
        LureTown x = busy();
        x.note(0, 0, 3);
        Due.is("none such", x.ruled(0), 0);
        Due.is("none such", x.ruled(1), -2);
        Due.is("others", x.ruled(2), -3);
    }

    private static void look() {
        Due.words("LOOK (n 0 to 60) what 0: the WALKER, 1: how many; -2: no RULE is so, or there are no WALKERS. NONE without these, or a TOWN.");
        busy("look(0, 0)", 0, y -> y.look(0, 0));
        busy("look(0, 1)", 2, y -> y.look(0, 1));
        busy("look(60, 0)", 0, y -> y.look(60, 0));
        busy("look(60, 1)", 2, y -> y.look(60, 1));
        busy("look(-1, 0)", -1, y -> y.look(-1, 0));
        busy("look(61, 0)", -1, y -> y.look(61, 0));
        busy("look(1, -1)", -1, y -> y.look(1, -1));
        busy("look(1, 2)", -1, y -> y.look(1, 2));
        townless("look(0, 0)", -1, y -> y.look(0, 0));
        for (int out : FAR_OUT) {
            busy("look(" + out + ", 0)", -1, y -> y.look(out, 0));
            busy("look(0, " + out + ")", -1, y -> y.look(0, out));
        }
        LureTown x = busy();
        x.note(0, 0, 3);
        LureTown none = Due.townOf("town 2;way 0 1");
        for (int what = 0; what <= 1; what++) {
            Due.is("no rule is so", x.look(60, what), -2);
            Due.is("no walkers", none.look(0, what), -2);
        }
        Due.is("others, no rule is so", x.look(0, 2), -1);
        Due.is("others, no walkers", none.look(61, 0), -1);
    }

    // ---- nights, counts, images ----

    private static void seed() {
        Due.words("x becomes a number: what it was; NONE, and nothing happens, below 0.");
        LureTown x = busy();
        Due.is("0", x.seed(0), 12345);
        Due.is("the most", x.seed(2147483647), 0);
        Due.is("what it was", x.seed(1), 2147483647);
        Due.is("x", x.count(12), 1);
        Due.is("seed is no act", x.count(11), 5);
        busy("seed(-1)", -1, y -> y.seed(-1));
        busy("seed of the least", -1, y -> y.seed(Integer.MIN_VALUE));
        townless("seed(-1)", -1, y -> y.seed(-1));
        Due.is("without a town", new LureTown().seed(9), 0);
    }

    private static void nights() {
        Due.words("NIGHTS what 0: CHARGES, 1: how many. NONE without these, or a TOWN.");
        busy("nights(1, 1, 0, 0)", 23, y -> y.nights(1, 1, 0, 0));
        busy("nights(10, 60, 0, 1)", 10, y -> y.nights(10, 60, 0, 1));
        busy("m 0", -1, y -> y.nights(0, 1, 0, 0));
        busy("m 11", -1, y -> y.nights(11, 1, 0, 0));
        busy("n 0", -1, y -> y.nights(1, 0, 0, 0));
        busy("n 61", -1, y -> y.nights(1, 61, 0, 0));
        busy("p -1", -1, y -> y.nights(1, 1, -1, 0));
        busy("p 101", -1, y -> y.nights(1, 1, 101, 0));
        busy("what -1", -1, y -> y.nights(1, 1, 0, -1));
        busy("what 2", -1, y -> y.nights(1, 1, 0, 2));
        for (int out : FAR_OUT) {
            busy("m " + out, -1, y -> y.nights(out, 1, 0, 0));
            busy("n " + out, -1, y -> y.nights(1, out, 0, 0));
            busy("p " + out, -1, y -> y.nights(1, 1, out, 0));
            busy("what " + out, -1, y -> y.nights(1, 1, 0, out));
        }
        townless("nights(1, 1, 0, 0)", -1, y -> y.nights(1, 1, 0, 0));
    }

    private static void count() {
        Due.words("What 0: CORNERS, 1: WAYS, 2: LURES, 3: WALKERS, 4: RULES, 5: the RULE IN FORCE (NONE), 6: STEP, 7: LURES that are SET, as bits, 8: WALKERS who are at HOME, as bits, 9: CHARGES of all, 10: NOTES, 11: ACTS that can be UNDONE, 12: x, 13: bytes of the TAPE. NONE for others.");
        int[] due = {4, 3, 3, 2, 2, 1, 2, 6, 0, 3, 2, 5, 12345, 21};
        for (int i = 0; i <= 13; i++) {
            int what = i;
            busy("count(" + what + ")", due[i], y -> y.count(what));
        }
        busy("count(-1)", -1, y -> y.count(-1));
        busy("count(14)", -1, y -> y.count(14));
        townless("count(14)", -1, y -> y.count(14));
        for (int out : FAR_OUT) {
            busy("count(" + out + ")", -1, y -> y.count(out));
        }
        LureTown x = full();
        Due.is("rules at most", x.count(4), 6);
        Due.is("notes at most", x.count(10), 10);
        Due.is("acts at most", x.count(11), 20);
        Due.is("bytes of the tape", x.count(13), 390);
        x = Due.townOf("town 2" + ";lure 0 0 9 20".repeat(6) + ";walker 0 0 0 0".repeat(5));
        Due.is("lures at most", x.count(2), 6);
        Due.is("walkers at most", x.count(3), 5);
        Due.is("all are set", x.count(7), 63);
        Due.is("all are at home", x.count(8), 31);
        x.step();
        Due.is("one is set", x.count(7), 32);
        Due.is("charges of five", x.count(9), 100);
        x = Due.townOf("town 2;lure 0 0 9 20;walker 0 1 0 0");
        Due.is("nobody is at home", x.count(8), 0);
        x.step();
        Due.is("none is set", x.count(7), 0);
        Due.is("without a way nobody comes home", x.count(8), 0);
    }

    private static void image() {
        Due.words("An IMAGE is made: STEP; NONE without it.");
        for (int i = 0; i < 4; i++) {
            LureTown x = busy();
            int k = i;
            Due.is("image(" + k + ")", x.image(k), 2);
            Due.is("acts can be undone still", x.count(11), 5);
            x.step();
            Due.is("back(" + k + ")", x.back(k), 2);
        }
        Due.is("without a town", new LureTown().image(0), 0);
        busy("image(-1)", -1, y -> y.image(-1));
        busy("image(4)", -1, y -> y.image(4));
        busy("image(32)", -1, y -> y.image(32));
        townless("image(4)", -1, y -> y.image(4));
        for (int out : FAR_OUT) {
            busy("image(" + out + ")", -1, y -> y.image(out));
        }
    }

    private static void back() {
        Due.words("All is as in an IMAGE: STEP; NONE, and nothing happens, if it was never made, or without it.");
        LureTown x = busy();
        Due.is("back(1)", x.back(1), 0);
        Due.is("set as told", x.count(7), 7);
        Due.is("back(3)", x.back(3), 1);
        Due.is("kind as baited", x.lure(2, 1), 5);
        Due.is("back(1) again", x.back(1), 0);
        busy("back(0), never made", -1, y -> y.back(0));
        busy("back(2), never made", -1, y -> y.back(2));
        busy("back(-1)", -1, y -> y.back(-1));
        busy("back(4)", -1, y -> y.back(4));
        townless("back(3)", -1, y -> y.back(3));
        // 32 or 64 more or less than one that was made is none that was made
        for (int k : new int[] {33, 35, -31, -29, 65, 67}) {
            busy("back(" + k + ")", -1, y -> y.back(k));
        }
        for (int out : FAR_OUT) {
            busy("back(" + out + ")", -1, y -> y.back(out));
        }
        Due.is("of no town", townless().back(2), 0);
        // of another town that was told since
        x = busy();
        Due.town(x, "town 2;way 0 1;walker 0 0 7 7");
        x.note(0, 0, 1);
        Due.is("of another town", x.back(3), 1);
        LureTown y = busy();
        y.back(3);
        Due.tape(x, "x");
        Due.tape(y, "x");
        Due.same("behind another town", Sight.of(x), Sight.of(y));
    }
}
