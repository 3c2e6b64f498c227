/** Promises 16 to 24 and 27 to 29: how it goes on, ways home, where lures had best lie, rests, rings, pence. */
public final class AskTests {
    private static final String RING = "town 5;way 0 1;way 1 2;way 0 3;way 3 4;way 2 4;lure 1 2 5 7;lure 3 4 3 4;walker 0 4 2 1;walker 2 0 4 3";
    private static final String ROW = "town 4;way 0 1;way 1 2;way 2 3;lure 1 0 5 3;lure 3 0 9 20;lure 3 1 9 7;walker 0 3 0 1;walker 1 3 1 0";

    public static void main(String[] args) {
        ahead();
        beyond();
        hadAndFirst();
        far();
        safe();
        stuck();
        best();
        kind();
        cover();
        rests();
        ring();
        pence();
        Due.leave();
    }

    private static void ahead() {
        LureTown x = Due.townOf(ROW);
        int[] corners = {0, 1, 2, 3, 3};
        int[] charges = {0, 3, 3, 23, 23};
        int[] sets = {7, 6, 2, 0, 0};
        for (int n = 0; n < 5; n++) {
            Due.is("ahead(0, " + n + ", 0)", x.ahead(0, n, 0), corners[n]);
            Due.is("ahead(0, " + n + ", 1)", x.ahead(0, n, 1), charges[n]);
            Due.is("ahead(9, " + n + ", 2)", x.ahead(9, n, 2), sets[n]);
        }
        Due.is("ahead(1, 2, 1)", x.ahead(1, 2, 1), 7);
        Due.is("ahead(0, 100, 0)", x.ahead(0, 100, 0), 3);
        Due.is("ahead(0, 101, 0)", x.ahead(0, 101, 0), -1);
        Due.is("ahead(0, -1, 0)", x.ahead(0, -1, 0), -1);
        Due.is("ahead(2, 1, 0)", x.ahead(2, 1, 0), -1);
        Due.is("ahead(-1, 1, 1)", x.ahead(-1, 1, 1), -1);
        Due.is("ahead(0, 1, 3)", x.ahead(0, 1, 3), -1);
        Due.is("ahead(0, 1, -1)", x.ahead(0, 1, -1), -1);
        Due.is("nothing changes", x.count(6) + x.count(9) + x.count(11), 0);
        Due.is("nothing changes", x.walker(0, 0), 0);
        Due.is("of a town without walkers", Due.townOf("town 2;lure 0 0 1 1").ahead(0, 5, 2), 1);
    }

    /** What is asked goes on by the rule in force, and knows the step it would be. */
    private static void beyond() {
        LureTown x = Due.townOf("town 2;way 0 1;lure 1 0 9 4;walker 0 0 0 0");
        Due.rule(x, "go 1 if step = 150 and corner = 1 or step < 150 and corner = 0");
        x.force(0);
        Due.is("had in step 150", x.had(0, 0), 150);
        Due.is("first in step 150", x.first(0), 150);
        x.step();
        Due.is("still in step 150", x.had(0, 0), 150);
        Due.rule(x, "go 1 if step = 200 and corner = 1 or step < 200 and corner = 0");
        x.force(1);
        Due.is("the last of 200", x.had(0, 0), 200);
        x.undo();
        Due.is("one too late", x.had(0, 0), -2);
        Due.is("one too late", x.first(1), -2);
    }

    private static void hadAndFirst() {
        LureTown x = Due.townOf(ROW);
        Due.is("had(0, 0)", x.had(0, 0), 0);
        Due.is("had(0, 1)", x.had(0, 1), 0);
        Due.is("had(1, 0)", x.had(1, 0), 1);
        Due.is("had(1, 1)", x.had(1, 1), 2);
        Due.is("first(0)", x.first(0), 0);
        Due.is("first(1)", x.first(1), 0);
        x.step();
        Due.is("had(0, 0)", x.had(0, 0), 2);
        Due.is("had(0, 1)", x.had(0, 1), 1);
        Due.is("first(0)", x.first(0), 1);
        Due.is("first(1)", x.first(1), 1);
        Due.is("had(2, 0)", x.had(2, 0), -1);
        Due.is("had(-1, 0)", x.had(-1, 0), -1);
        Due.is("had(0, 2)", x.had(0, 2), -1);
        Due.is("had(0, -1)", x.had(0, -1), -1);
        Due.is("first(2)", x.first(2), -1);
        Due.is("first(-1)", x.first(-1), -1);
        x.step();
        Due.is("had(1, 0) no more", x.had(1, 0), -2);
        Due.is("had(1, 1) no more", x.had(1, 1), -2);
        x.step();
        Due.is("first(0) no more", x.first(0), -2);
        Due.is("first of no walkers", Due.townOf("town 2").first(1), -2);
        x = Due.townOf("town 2;lure 0 3 5 1;lure 0 3 5 1;walker 1 1 3 0;walker 0 0 3 0;walker 0 0 3 0");
        Due.is("of two the least", x.first(1), 1);
    }

    private static void far() {
        LureTown x = Due.townOf("town 5;way 0 1;way 1 2;walker 0 2 0 0;walker 2 2 0 0;walker 0 3 0 0;walker 4 4 0 0");
        int[] due = {2, 0, -2, 0, -1};
        for (int i = 0; i < 5; i++) {
            Due.is("far(" + i + ")", x.far(i), due[i]);
        }
        Due.is("far(-1)", x.far(-1), -1);
        x.step();
        Due.is("far now", x.far(0), 1);
    }

    private static void safe() {
        LureTown x = Due.townOf("town 5;way 0 1;way 1 4;way 0 2;way 2 3;way 3 4;lure 1 0 5 1;lure 0 0 9 1;lure 2 1 9 1;walker 0 4 0 0;walker 0 4 0 5;walker 0 4 1 0;walker 0 0 0 0");
        Due.is("round the lure", x.safe(0), 3);
        Due.is("too wary", x.safe(1), 2);
        Due.is("another heart", x.safe(2), 2);
        Due.is("at home", x.safe(3), 0);
        x.move(0, 4);
        Due.is("home has one", x.safe(0), -2);
        Due.is("at home, whatever lies there", x.safe(3), 0);
        x.bait(2, 0);
        x.move(0, 1);
        Due.is("neither way", x.safe(0), -2);
        x.calm(0, 5);
        Due.is("wary now", x.safe(0), 2);
        Due.is("safe(4)", x.safe(4), -1);
        Due.is("safe(-1)", x.safe(-1), -1);
        x = Due.townOf("town 3;way 0 1;lure 1 0 5 1;walker 0 1 0 0;walker 0 2 0 0");
        Due.is("home has one", x.safe(0), -2);
        Due.is("no row", x.safe(1), -2);
        x.calm(0, 0);
        x.step();
        Due.is("sprung, at home", x.safe(0), 0);
        x.undo();
        x.bait(0, 1);
        Due.is("of another kind", x.safe(0), 1);
    }

    private static void stuck() {
        LureTown x = Due.townOf("town 8;way 0 1;way 1 2;way 1 3;way 2 4;way 3 4;way 4 5;way 5 6;walker 0 5 0 0;walker 1 4 0 0;walker 6 6 0 0;walker 0 7 0 0");
        Due.is("stuck(0)", x.stuck(0), 1 + 2 + 16 + 32);
        Due.is("stuck(1)", x.stuck(1), 2 + 16);
        Due.is("at home", x.stuck(2), 64);
        Due.is("no row", x.stuck(3), 0);
        Due.is("stuck(4)", x.stuck(4), -1);
        Due.is("stuck(-1)", x.stuck(-1), -1);
        x.step();
        Due.is("from here", x.stuck(0), 2 + 16 + 32);
    }

    private static void best() {
        // walker 0 passes 1, 2, 3; walker 1 passes 2, 3; the lure that is set first has who comes first
        LureTown x = Due.townOf("town 5;way 0 1;way 1 2;way 2 3;lure 4 0 5 8;walker 0 3 0 0");
        Due.is("best(0, 3, 0)", x.best(0, 3, 0), 1);
        Due.is("best(0, 3, 1)", x.best(0, 3, 1), 8);
        x.move(0, 2);
        Due.is("where it lies", x.best(0, 3, 0), 2);
        Due.is("in one step", x.best(0, 1, 0), 1);
        Due.is("corner stays", x.lure(0, 0), 2);
        x.move(0, 3);
        Due.is("in two steps", x.best(0, 2, 0), 1);
        x.move(0, 0);
        x.bait(0, 1);
        Due.is("nowhere: where it lies", x.best(0, 40, 0), 0);
        Due.is("nothing", x.best(0, 40, 1), 0);
        Due.is("best(1, 1, 0)", x.best(1, 1, 0), -1);
        Due.is("best(-1, 1, 0)", x.best(-1, 1, 0), -1);
        Due.is("best(0, 0, 0)", x.best(0, 0, 0), -1);
        Due.is("best(0, 41, 0)", x.best(0, 41, 0), -1);
        Due.is("best(0, 1, 2)", x.best(0, 1, 2), -1);
        Due.is("best(0, 1, -1)", x.best(0, 1, -1), -1);
        x.bait(0, 0);
        x.move(0, 1);
        x.step();
        Due.is("sprung", x.best(0, 1, 0), -1);
        // charges that were there count, too
        x.set(0, 4);
        Due.is("how much of all", x.best(0, 1, 1), 16);
    }

    private static void kind() {
        LureTown x = Due.townOf("town 3;way 0 1;lure 1 7 5 8;lure 1 3 1 2;walker 0 1 3 1;walker 0 1 5 1;walker 0 0 2 0");
        Due.is("kind(0, 1, 0)", x.kind(0, 1, 0), 3);
        Due.is("kind(0, 1, 1)", x.kind(0, 1, 1), 8);
        x.bait(0, 5);
        Due.is("the one it has", x.kind(0, 40, 0), 5);
        Due.is("kind stays", x.lure(0, 1), 5);
        x.bait(1, 4);
        Due.is("no kind does: its own", x.kind(1, 40, 0), 4);
        Due.is("how much of all", x.kind(1, 40, 1), 8);
        Due.is("kind(2, 1, 0)", x.kind(2, 1, 0), -1);
        Due.is("kind(-1, 1, 0)", x.kind(-1, 1, 0), -1);
        Due.is("kind(0, 0, 0)", x.kind(0, 0, 0), -1);
        Due.is("kind(0, 41, 0)", x.kind(0, 41, 0), -1);
        Due.is("kind(0, 1, 2)", x.kind(0, 1, 2), -1);
        Due.is("kind(0, 1, -1)", x.kind(0, 1, -1), -1);
        x.step();
        Due.is("sprung", x.kind(0, 1, 0), -1);
    }

    private static void cover() {
        covers("town 2", 0, 0);
        covers("town 2;way 0 1", 1, 1);
        covers(RING, 3, 13);
        covers("town 4;way 3 0;way 3 1;way 3 2", 1, 8);
        covers("town 8;way 7 6;way 5 4;way 3 2;way 1 0", 4, 1 + 4 + 16 + 64);
        covers("town 4;way 0 1;way 0 2;way 0 3;way 1 2;way 1 3;way 2 3", 3, 7);
        LureTown x = Due.townOf(RING);
        Due.is("cover(2)", x.cover(2), -1);
        Due.is("cover(-1)", x.cover(-1), -1);
    }

    private static void covers(String text, int many, int corners) {
        LureTown x = Due.townOf(text);
        Due.is("cover(0) of " + text, x.cover(0), many);
        Due.is("cover(1) of " + text, x.cover(1), corners);
    }

    private static void rests() {
        // One walker goes from 0 to 1. Alike lures want 1; both there: the first has the walker, the second is where he is.
        LureTown x = Due.townOf("town 2;way 0 1;lure 0 0 5 3;lure 0 0 5 2;walker 0 1 0 0");
        // gains at n = 1: (0,0) 0 0; (0,1) 0 2; (1,0) 3 0; (1,1) 3 1
        Due.is("rests(0, 1, 1, 0)", x.rests(0, 1, 1, 0), 1);
        Due.is("rests(0, 1, 1, 1)", x.rests(0, 1, 1, 1), 1);
        Due.is("rests(0, 1, 1, 2)", x.rests(0, 1, 1, 2), 1);
        // the other is wary of the second: he is never had by it, so the second gains where he is
        x = Due.townOf("town 3;way 0 1;lure 0 0 5 3;lure 2 1 5 2;walker 0 1 0 0");
        Due.is("second comes along", x.rests(0, 1, 1, 2), 1);
        Due.is("others first", x.rests(1, 0, 1, 1), 1);
        Due.is("one rest", x.rests(0, 1, 1, 0), 1);
        Due.is("corners stay", x.lure(1, 0), 2);
        // each has a walker of its own, one goes to 2, one to 3; at 2 and 3 neither would have more
        x = Due.townOf("town 4;way 0 2;way 1 3;lure 0 0 5 3;lure 0 1 5 2;walker 0 2 0 0;walker 1 3 1 0");
        Due.is("one rest", x.rests(0, 1, 1, 0), 1);
        Due.is("corner of the one", x.rests(0, 1, 1, 1), 2);
        Due.is("corner of the other", x.rests(0, 1, 1, 2), 3);
        Due.is("the other way round", x.rests(1, 0, 1, 1), 3);
        Due.is("the other way round", x.rests(1, 0, 1, 2), 2);
        // without walkers all twos rest
        x = Due.townOf("town 3;lure 0 0 5 3;lure 2 1 5 2");
        Due.is("all rest", x.rests(0, 1, 20, 0), 9);
        Due.is("the first of all", x.rests(0, 1, 20, 1), 0);
        Due.is("alike", x.rests(0, 0, 1, 0), -1);
        Due.is("no such", x.rests(0, 2, 1, 0), -1);
        Due.is("no such", x.rests(-1, 0, 1, 0), -1);
        Due.is("n 0", x.rests(0, 1, 0, 0), -1);
        Due.is("n 21", x.rests(0, 1, 21, 0), -1);
        Due.is("what 3", x.rests(0, 1, 1, 3), -1);
        Due.is("what -1", x.rests(0, 1, 1, -1), -1);
        // the walker goes to a lure that lies alone, of two the least; else he stays
        x = Due.townOf("town 2;way 0 1;lure 0 1 5 3;lure 0 1 5 2;walker 0 0 0 0");
        Due.rule(x, "go 1 if lures = 1");
        x.force(0);
        // gains: (0,0) 1 1; (0,1) 1 0; (1,0) 0 1; (1,1) 0 0
        Due.is("together", x.rests(0, 1, 1, 0), 1);
        Due.is("the first", x.rests(0, 1, 1, 1) * 10 + x.rests(0, 1, 1, 2), 0);
        noRest();
        x = Due.townOf("town 2;lure 0 0 5 3;lure 1 1 5 2;walker 0 0 0 0");
        x.step();
        Due.is("sprung", x.rests(0, 1, 1, 0), -1);
        Due.is("sprung", x.rests(1, 0, 1, 0), -1);
    }

    /** Together the first lure gains most, apart the second one does. */
    private static void noRest() {
        LureTown x = Due.townOf("town 3;way 0 1;way 1 2;way 0 2;lure 0 1 5 3;lure 1 2 5 2;walker 2 2 1 0;walker 2 2 2 0");
        Due.rule(x, "go 2 if walker = 0 and lures = 2;go 2 if walker = 1 and lures = 1 and mine = 1;go 1 if lures = 0");
        x.force(0);
        Due.is("no rest", x.rests(0, 1, 1, 0), 0);
        Due.is("no first", x.rests(0, 1, 1, 1), -2);
        Due.is("no first", x.rests(0, 1, 1, 2), -2);
    }

    private static void ring() {
        LureTown x = Due.townOf("town 3;way 0 1;way 1 2;way 0 2;lure 2 0 9 1;walker 0 0 0 0");
        Due.is("who stays is in a ring", x.ring(0), 0);
        Due.is("one later", x.ring(1), 1);
        Due.rule(x, "go 1 if corner = from + 1;go 1 if from = 2 and corner = 0");
        x.force(0);
        // 0 1 2 0 1 2: the lure at 2 springs in step 1, so that step 0 and step 1 come never again as they were
        Due.is("from step 2 on", x.ring(0), 2);
        Due.is("three later", x.ring(1), 3);
        x.step();
        Due.is("from step 2 on", x.ring(0), 2);
        x.step();
        x.step();
        Due.is("this one the first", x.ring(0), 3);
        Due.is("three later", x.ring(1), 3);
        Due.is("ring(2)", x.ring(2), -1);
        Due.is("ring(-1)", x.ring(-1), -1);
        Due.is("without walkers", Due.townOf("town 2").ring(1), 1);
        lateRing();
    }

    /** Two walkers who count steps by their corners are nowhere twice, but for what they do in one step. */
    private static void lateRing() {
        ringOf("step = 59 and corner = from", 59, 59, 1);
        ringOf("step = 60 and corner = from", 60, -2, -2);
        ringOf("step = 59 and corner = 7", 59, 0, 60);
        ringOf("step = 60 and corner = 7", 60, -2, -2);
    }

    private static void ringOf(String test, int step, int due, int later) {
        StringBuilder text = new StringBuilder("town 8;walker 7 7 0 0;walker 7 7 0 0");
        for (int a = 0; a < 8; a++) {
            for (int b = 0; b < a; b++) {
                text.append(";way ").append(a).append(' ').append(b);
            }
        }
        LureTown x = Due.townOf(text.toString());
        Due.rule(x, "go 1 if " + test + ";go 1 if not step = " + step + " and walker = 0 and corner = step % 8;go 1 if not step = "
                + step + " and walker = 1 and corner = step / 8 % 8");
        x.force(0);
        Due.is("ring(0) by " + test, x.ring(0), due);
        Due.is("ring(1) by " + test, x.ring(1), later);
    }

    private static void pence() {
        LureTown x = Due.townOf("town 2;lure 0 0 9 3;lure 0 1 9 3;lure 0 2 9 1;walker 0 0 0 0;walker 0 0 1 0;walker 0 0 2 0;walker 0 0 3 0");
        Due.is("nobody has any", x.pence(100, 0), 0);
        x.step();
        // by 3, 3, 1 and 0 of 7
        share(x, 7, 3, 3, 1, 0);
        share(x, 0, 0, 0, 0, 0);
        share(x, 1, 1, 0, 0, 0);
        share(x, 2, 1, 1, 0, 0);
        share(x, 3, 1, 1, 1, 0);
        share(x, 4, 2, 2, 0, 0);
        share(x, 5, 2, 2, 1, 0);
        share(x, 6, 3, 2, 1, 0);
        share(x, 100, 43, 43, 14, 0);
        share(x, 9999, 4285, 4285, 1429, 0);
        Due.is("too much", x.pence(10000, 0), -1);
        Due.is("too little", x.pence(-1, 0), -1);
        Due.is("no such", x.pence(1, 4), -1);
        Due.is("no such", x.pence(1, -1), -1);
    }

    private static void share(LureTown x, int much, int... due) {
        for (int i = 0; i < due.length; i++) {
            Due.is("pence(" + much + ", " + i + ")", x.pence(much, i), due[i]);
        }
    }
}
