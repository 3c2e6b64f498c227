/** Promises 7 to 15: what lures, walkers and ways are, acts, and acts undone. */
public final class ActTests {
    private static final String RING = "town 5;way 0 1;way 1 2;way 0 3;way 3 4;way 2 4;lure 1 2 5 7;lure 3 4 3 4;walker 0 4 2 1;walker 2 0 4 3";

    public static void main(String[] args) {
        asked();
        homeward();
        allAtOnce();
        had();
        most();
        lastStep();
        set();
        move();
        bait();
        calm();
        undo();
        Due.leave();
    }

    private static void state(LureTown x, String when, int... corners) {
        for (int i = 0; i < corners.length; i++) {
            Due.is(when + ": corner of walker " + i, x.walker(i, 0), corners[i]);
        }
    }

    private static void asked() {
        LureTown x = Due.townOf(RING);
        Due.is("lure(-1, 0)", x.lure(-1, 0), -1);
        Due.is("lure(2, 0)", x.lure(2, 0), -1);
        Due.is("lure(0, -1)", x.lure(0, -1), -1);
        Due.is("lure(0, 5)", x.lure(0, 5), -1);
        Due.is("walker(-1, 0)", x.walker(-1, 0), -1);
        Due.is("walker(2, 0)", x.walker(2, 0), -1);
        Due.is("walker(0, -1)", x.walker(0, -1), -1);
        Due.is("walker(0, 5)", x.walker(0, 5), -1);
        Due.is("ways(-1)", x.ways(-1), -1);
        Due.is("ways(5)", x.ways(5), -1);
        Due.is("ways(0)", x.ways(0), 10);
        Due.is("ways(4)", x.ways(4), 12);
        Due.is("ways", x.count(1), 5);
    }

    private static void homeward() {
        LureTown x = Due.townOf(RING);
        Due.is("step", x.step(), 0);
        state(x, "step 1", 3, 1);
        Due.is("step", x.step(), 0);
        state(x, "step 2", 4, 0);
        Due.is("at home", x.count(8), 3);
        Due.is("step", x.step(), 0);
        state(x, "step 3", 4, 0);
        Due.is("STEP", x.count(6), 3);
        // of two ways alike the least corner; without a row they stay
        x = Due.townOf("town 6;way 0 3;way 0 2;way 2 4;way 3 4;walker 0 4 0 0;walker 5 0 0 0;walker 4 0 0 0");
        x.step();
        state(x, "of two", 2, 5, 2);
        x.step();
        state(x, "of two", 4, 5, 0);
    }

    private static void allAtOnce() {
        LureTown x = Due.townOf("town 3;way 0 1;way 1 2;walker 0 0 0 0;walker 1 1 0 0");
        Due.rule(x, "go others");
        x.force(0);
        x.step();
        state(x, "all at once", 1, 0);
        x.step();
        state(x, "all at once", 0, 1);
        x = Due.townOf(RING);
        Due.rule(x, "go 9 - home - mine * 5 - lures");
        x.force(0);
        Due.is("step", x.step(), 0);
        state(x, "of several the least", 0, 1);
        Due.is("step", x.step(), 0);
        state(x, "of several the least", 0, 0);
    }

    private static void had() {
        // both walkers come to corner 1 at once; lures 1 and 2 would have them, 0 is of another kind, 3 has too little guile
        LureTown x = Due.townOf("town 3;way 0 1;way 1 2;lure 1 1 9 1;lure 1 2 4 5;lure 1 2 9 20;lure 1 2 3 2;walker 0 2 2 3;walker 2 0 2 3;walker 0 2 2 9");
        Due.is("two are had", x.step(), 3);
        Due.is("set", x.count(7), 9);
        Due.is("charge", x.walker(0, 4), 5);
        Due.is("charge", x.walker(1, 4), 20);
        Due.is("charge", x.walker(2, 4), 0);
        Due.is("wary", x.walker(0, 3), 4);
        Due.is("wary", x.walker(2, 3), 9);
        Due.is("charges", x.count(9), 25);
        Due.is("sprung", x.lure(1, 4), 0);
        Due.is("where it lay", x.lure(1, 0), 1);
        Due.is("set yet", x.lure(3, 4), 1);
        // who stays is had as well, once in a step, the first walker first
        x = Due.townOf("town 2;lure 0 0 5 3;lure 0 0 5 4;walker 0 0 0 0;walker 0 1 0 0");
        Due.is("who stay", x.step(), 3);
        Due.is("charge", x.walker(0, 4), 3);
        Due.is("charge", x.walker(1, 4), 4);
        x = Due.townOf("town 2;lure 0 0 5 3;lure 0 0 5 4;walker 0 0 0 0");
        Due.is("once", x.step(), 1);
        Due.is("twice", x.step(), 1);
        Due.is("no more", x.step(), 0);
        Due.is("charge", x.walker(0, 4), 7);
        Due.is("wary", x.walker(0, 3), 2);
    }

    private static void most() {
        LureTown x = Due.townOf("town 2;lure 0 0 9 20;walker 0 0 0 0");
        for (int i = 1; i <= 52; i++) {
            Due.is("had", x.step(), 1);
            Due.is("charge", x.walker(0, 4), Math.min(999, 20 * i));
            Due.is("wary", x.walker(0, 3), 1);
            x.set(0, 0);
            x.calm(0, 0);
        }
        x.calm(0, 8);
        x.step();
        Due.is("wary at most", x.walker(0, 3), 9);
        x.set(0, 0);
        Due.is("never more than 9", x.step(), 0);
    }

    /** More calls than an object is used for; the class keeps the bound all the same. */
    private static void lastStep() {
        LureTown x = Due.townOf("town 2;way 0 1;lure 1 0 9 4;walker 0 0 0 0");
        Due.rule(x, "go 1 if step = 1001 and corner = 1");
        x.force(0);
        for (int i = 0; i < 999; i++) {
            x.step();
        }
        Due.is("STEP", x.count(6), 999);
        Due.is("no step more by hand", x.step(), -1);
        Due.is("STEP", x.count(6), 999);
        Due.is("what is asked goes on", x.had(0, 0), 1001);
        Due.is("undo", x.undo(), 19);
        Due.is("STEP", x.count(6), 998);
        Due.is("step", x.step(), 0);
    }

    private static void set() {
        LureTown x = Due.townOf("town 3;lure 0 0 5 3;lure 1 0 5 3;walker 0 0 0 0");
        Due.is("set of a lure that is set", x.set(0, 1), -1);
        x.step();
        Due.is("acts", x.count(11), 1);
        Due.is("no such lure", x.set(2, 1), -1);
        Due.is("no such lure", x.set(-1, 1), -1);
        Due.is("no such corner", x.set(0, 3), -1);
        Due.is("no such corner", x.set(0, -1), -1);
        Due.is("move of a sprung one", x.move(0, 1), -1);
        Due.is("acts", x.count(11), 1);
        Due.is("set", x.set(0, 2), 0);
        Due.is("acts", x.count(11), 2);
        Due.is("corner", x.lure(0, 0), 2);
        Due.is("is set", x.lure(0, 4), 1);
        x.move(0, 0);
        x.step();
        Due.is("set where it lies", x.set(0, 0), 0);
    }

    private static void move() {
        LureTown x = Due.townOf("town 3;lure 0 0 5 3;walker 1 1 0 0");
        Due.is("where it lies", x.move(0, 0), -1);
        Due.is("no such corner", x.move(0, 3), -1);
        Due.is("no such corner", x.move(0, -1), -1);
        Due.is("no such lure", x.move(1, 1), -1);
        Due.is("no such lure", x.move(-1, 1), -1);
        Due.is("acts", x.count(11), 0);
        Due.is("move", x.move(0, 1), 0);
        Due.is("move", x.move(0, 2), 1);
        Due.is("corner", x.lure(0, 0), 2);
        Due.is("nobody is had by a move", x.walker(0, 4), 0);
        Due.is("STEP", x.count(6), 0);
    }

    private static void bait() {
        LureTown x = Due.townOf("town 3;lure 0 0 5 3;walker 0 0 0 0");
        Due.is("the same", x.bait(0, 0), -1);
        Due.is("no such kind", x.bait(0, 8), -1);
        Due.is("no such kind", x.bait(0, -1), -1);
        Due.is("no such lure", x.bait(1, 1), -1);
        Due.is("no such lure", x.bait(-1, 1), -1);
        Due.is("bait", x.bait(0, 7), 0);
        Due.is("had by no other kind", x.step(), 0);
        Due.is("bait", x.bait(0, 0), 7);
        Due.is("had", x.step(), 1);
        Due.is("bait of a sprung one", x.bait(0, 3), 0);
        Due.is("kind", x.lure(0, 1), 3);
        Due.is("acts", x.count(11), 5);
    }

    private static void calm() {
        LureTown x = Due.townOf("town 3;lure 0 0 5 3;walker 0 0 0 5");
        Due.is("the same", x.calm(0, 5), -1);
        Due.is("too wary", x.calm(0, 10), -1);
        Due.is("too little", x.calm(0, -1), -1);
        Due.is("no such walker", x.calm(1, 1), -1);
        Due.is("no such walker", x.calm(-1, 1), -1);
        Due.is("guile is not more", x.step(), 0);
        Due.is("calm", x.calm(0, 4), 5);
        Due.is("wary", x.walker(0, 3), 4);
        Due.is("had", x.step(), 1);
        Due.is("wary again", x.walker(0, 3), 5);
        Due.is("calm", x.calm(0, 9), 5);
    }

    private static void undo() {
        LureTown x = Due.townOf("town 3;way 0 1;way 1 2;lure 1 0 5 3;walker 0 2 0 0");
        Due.is("undo of none", x.undo(), -1);
        x.step();
        x.set(0, 2);
        x.move(0, 0);
        x.bait(0, 6);
        x.calm(0, 9);
        x.seed(5);
        x.note(3, 0, 1);
        Due.is("undo calm", x.undo(), 4);
        Due.is("wary", x.walker(0, 3), 1);
        Due.is("undo bait", x.undo(), 3);
        Due.is("kind", x.lure(0, 1), 0);
        Due.is("undo move", x.undo(), 2);
        Due.is("corner", x.lure(0, 0), 2);
        Due.is("undo set", x.undo(), 1);
        Due.is("corner", x.lure(0, 0), 1);
        Due.is("sprung", x.lure(0, 4), 0);
        Due.is("undo step", x.undo(), 0);
        int[] row = {0, 2, 0, 0, 0};
        for (int i = 0; i < 5; i++) {
            Due.is("walker(0, " + i + ")", x.walker(0, i), row[i]);
        }
        Due.is("set", x.count(7), 1);
        Due.is("STEP", x.count(6), 0);
        Due.is("x is no act", x.count(12), 5);
        Due.is("a note is no act", x.count(10), 1);
        Due.is("undo of none", x.undo(), -1);
        for (int i = 0; i < 33; i++) {
            x.calm(0, 1 + i % 9);
            Due.is("acts", x.count(11), Math.min(20, i + 1));
        }
        for (int i = 31; i >= 13; i--) {
            Due.is("undo", x.undo(), i - 12);
            Due.is("wary", x.walker(0, 3), 1 + i % 9);
        }
        Due.is("the twentieth", x.undo(), 0);
        Due.is("wary", x.walker(0, 3), 1 + 12 % 9);
        Due.is("no more", x.undo(), -1);
    }
}
