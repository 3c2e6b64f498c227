/** Promises 33 to 37: seed, nights, count, image, back. */
public final class NightTests {
    public static void main(String[] args) {
        seed();
        nightsWithout();
        nightsDrawn();
        count();
        images();
        imageOfNoTown();
        Due.leave();
    }

    private static void seed() {
        LureTown x = new LureTown();
        Due.is("x at first", x.count(12), 0);
        Due.is("seed", x.seed(5), 0);
        Due.is("seed below 0", x.seed(-1), -1);
        Due.is("seed below 0", x.seed(Integer.MIN_VALUE), -1);
        Due.is("seed", x.seed(2147483647), 5);
        Due.is("seed", x.seed(0), 2147483647);
    }

    private static void nightsWithout() {
        LureTown x = Due.townOf("town 2;way 0 1;lure 1 0 9 4;lure 1 0 9 5;lure 1 1 9 9;walker 0 1 0 0");
        Due.is("one step", x.nights(1, 1, 0, 0), 4);
        Due.is("set", x.nights(1, 1, 0, 1), 2);
        Due.is("two steps", x.nights(1, 2, 0, 0), 9);
        Due.is("all together", x.nights(10, 60, 0, 0), 90);
        Due.is("set, all together", x.nights(10, 60, 0, 1), 10);
        Due.is("no nights", x.nights(0, 1, 0, 0), -1);
        Due.is("too many", x.nights(11, 1, 0, 0), -1);
        Due.is("no steps", x.nights(1, 0, 0, 0), -1);
        Due.is("too many", x.nights(1, 61, 0, 0), -1);
        Due.is("p -1", x.nights(1, 1, -1, 0), -1);
        Due.is("p 101", x.nights(1, 1, 101, 0), -1);
        Due.is("what 2", x.nights(1, 1, 0, 2), -1);
        Due.is("what -1", x.nights(1, 1, 0, -1), -1);
        Due.is("nothing stays", x.count(6) + x.count(9), 0);
        Due.is("no lures", Due.townOf("town 2;walker 0 1 0 0").nights(3, 3, 100, 1), 0);
    }

    /**
     * From x = 0 the draws are 0, 21468, 9988, 22117, 3498, 16927, 16045, 19741: mod 100 of the first of
     * each step 0, 88 (with p = 100: and what lies between them which of the lures).
     */
    private static void nightsDrawn() {
        LureTown x = Due.townOf("town 2;lure 0 0 9 4;lure 1 0 9 5;walker 0 0 0 0");
        // ahead of step 0: 0, below 1: the lure 21468 mod 2 = 0, which is set already; had. ahead of step 1: 9988 mod 100 = 88.
        Due.is("p 1", x.nights(1, 2, 1, 0), 4);
        Due.is("p 88", x.nights(1, 2, 88, 0), 4);
        // p 89: lure 22117 mod 2 = 1, which is set already
        Due.is("p 89", x.nights(1, 2, 89, 0), 4);
        // p 100, step 2: 3498, lure 16927 mod 2 = 1; step 3: 16045, lure 19741 mod 2 = 1
        Due.is("p 100", x.nights(1, 4, 100, 0), 4);
        x = Due.townOf("town 2;lure 1 0 9 4;lure 0 0 9 5;walker 0 0 0 0");
        // lure 1 is had in step 0, set and had again in steps 1 to 3
        Due.is("p 100", x.nights(1, 4, 100, 0), 20);
        Due.is("p 100, set", x.nights(1, 4, 100, 1), 1);
        // p 89: step 2 draws 3498 mod 100 = 98 and no more; step 3 draws 16927 mod 100 = 27, and lure 16045 mod 2 = 1
        Due.is("p 89", x.nights(1, 3, 89, 0), 10);
        Due.is("p 89", x.nights(1, 4, 89, 0), 15);
        // p 88: step 1 draws 9988 alone; step 2 draws 22117 mod 100 = 17, lure 3498 mod 2 = 0
        Due.is("p 88", x.nights(1, 3, 88, 0), 5);
        // the second night goes on with the draws: 0, 21468 | 9988, 22117: 5 each
        Due.is("two nights", x.nights(2, 1, 100, 0), 10);
        // one step a night; the lure of the third night is 16927 mod 2 = 1, set already
        Due.is("three nights", x.nights(3, 1, 100, 1), 3);
        Due.is("x as it was", x.count(12), 0);
        x.step();
        // now lure 1 is sprung: ahead of night 0 lure 0, of night 1 and 2 lure 1
        Due.is("nights from now", x.nights(3, 1, 100, 0), 5 + 10 + 10);
        Due.is("draws", drawn(0, 1), 0);
        Due.is("draws", drawn(0, 8), 19741);
    }

    private static long drawn(long x, int times) {
        for (int i = 0; i < times; i++) {
            x = (x * 1103515245L + 12345) % 2147483648L;
        }
        return x / 65536;
    }

    private static void count() {
        LureTown x = Due.townOf("town 4;way 0 1;way 1 2;way 2 3;lure 1 0 5 3;lure 2 0 9 20;walker 0 3 0 1;walker 3 3 1 0;walker 1 0 0 0");
        Due.rule(x, "go 1");
        Due.rule(x, "go 2");
        x.force(1);
        x.force(-1);
        x.seed(9);
        x.note(1, 1, 3);
        x.step();
        x.move(1, 3);
        x.feed(0, 0, 0, 0, 0);
        // walker 0 is had at 1; walker 2 is home at 0
        int[] due = {4, 3, 2, 3, 2, -1, 1, 2, 6, 3, 1, 2, 9, 20};
        for (int i = 0; i < due.length; i++) {
            Due.is("count(" + i + ")", x.count(i), due[i]);
        }
        Due.is("count(14)", x.count(14), -1);
        Due.is("count(-1)", x.count(-1), -1);
    }

    private static void images() {
        LureTown x = Due.townOf("town 3;way 0 1;way 1 2;lure 1 0 5 3;walker 0 2 0 0");
        Due.rule(x, "go corner");
        x.force(0);
        x.step();
        x.seed(4);
        x.note(1, 0, 1);
        Due.is("image(-1)", x.image(-1), -1);
        Due.is("image(4)", x.image(4), -1);
        Due.is("image(3)", x.image(3), 1);
        Due.is("undo is still there", x.count(11), 1);
        x.force(-1);
        x.set(0, 2);
        x.step();
        x.bait(0, 5);
        x.calm(0, 7);
        x.seed(8);
        x.note(1, 0, 2);
        Due.rule(x, "go 1");
        x.feed(0, 0, 0, 0, 0);
        Due.is("image(0)", x.image(0), 2);
        Due.town(x, "town 2");
        x.feed(0, 0, 0, 0, 0);
        Due.is("never made", x.back(1), -1);
        Due.is("back(-1)", x.back(-1), -1);
        Due.is("back(4)", x.back(4), -1);
        Due.is("nothing happens", x.count(0), 2);
        Due.is("back(3)", x.back(3), 1);
        int[] due = {3, 2, 1, 1, 2, 0, 1, 0, 0, 3, 1, 0, 4, 20};
        for (int i = 0; i < due.length; i++) {
            Due.is("back: count(" + i + ")", x.count(i), due[i]);
        }
        int[] walker = {1, 2, 0, 1, 3};
        int[] lure = {1, 0, 5, 3, 0};
        for (int i = 0; i < 5; i++) {
            Due.is("back: walker(0, " + i + ")", x.walker(0, i), walker[i]);
            Due.is("back: lure(0, " + i + ")", x.lure(0, i), lure[i]);
        }
        Due.is("way", x.ways(1), 5);
        Due.is("nothing to be undone", x.undo(), -1);
        x.step();
        Due.is("back again", x.back(3), 1);
        Due.is("corner", x.walker(0, 0), 1);
        // the town's text is there as well: notes go from its begin
        Due.is("notes", x.ruled(0), 2);
        Due.is("back(0)", x.back(0), 2);
        Due.is("kind", x.lure(0, 1), 5);
        // of two notes that can't both be, these are told and no others
        Due.is("notes of the image", x.ruled(0), 0);
        x.step();
        x.note(-1, 0, 0);
        x.note(0, 0, 0);
        x.note(0, 0, 0);
        Due.is("notes of their own", x.ruled(0), 3);
        Due.is("acts", x.count(11), 1);
        Due.is("back(0)", x.back(0), 2);
        Due.is("nothing to be undone", x.undo(), -1);
        Due.is("notes of the image", x.ruled(0), 0);
        Due.is("image over an image", x.image(3), 2);
        x.step();
        Due.is("back(3)", x.back(3), 2);
        Due.is("wary", x.walker(0, 3), 7);
    }

    private static void imageOfNoTown() {
        LureTown x = new LureTown();
        Due.is("image", x.image(2), 0);
        Due.town(x, "town 2;walker 0 0 0 0");
        x.step();
        Due.is("back", x.back(2), 0);
        Due.is("corners", x.count(0), 0);
        Due.is("walkers", x.count(3), 0);
        Due.is("step", x.step(), -1);
    }
}
