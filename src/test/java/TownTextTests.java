/** Promise 4: town, and the faults of its text. */
public final class TownTextTests {
    public static void main(String[] args) {
        whatIsTold();
        whatStays();
        anewBehindFaults();
        signs();
        numbers();
        clauses();
        Due.leave();
    }

    private static void whatIsTold() {
        LureTown x = new LureTown();
        Due.is("town", Due.town(x, "town 5;way 0 1;way 1 0;way 0 1;way 4 1;lure 1 2 5 7;lure 4 7 9 20;walker 0 4 2 1;walker 2 0 7 9;walker 3 3 0 0"), 3);
        int[] counts = {5, 2, 2, 3, 0, -1, 0, 3, 4, 0, 0, 0, 0, 0};
        for (int i = 0; i < counts.length; i++) {
            Due.is("count(" + i + ")", x.count(i), counts[i]);
        }
        int[] ways = {2, 17, 0, 0, 2};
        for (int i = 0; i < 5; i++) {
            Due.is("ways(" + i + ")", x.ways(i), ways[i]);
        }
        row(x, true, 0, 1, 2, 5, 7, 1);
        row(x, true, 1, 4, 7, 9, 20, 1);
        row(x, false, 0, 0, 4, 2, 1, 0);
        row(x, false, 1, 2, 0, 7, 9, 0);
        row(x, false, 2, 3, 3, 0, 0, 0);
        // blanks as one likes, none where word and number meet, noughts ahead within five digits
        Due.is("blanks", Due.town(x, "  town2 ;way   0 00001;walker0 1 0 0 "), 1);
        Due.is("ways(0)", x.ways(0), 2);
        Due.is("least", Due.town(x, "town 2"), 0);
        Due.is("most", Due.town(x, "town 8;lure 7 7 9 20;lure 0 0 1 1;lure 0 0 1 1;lure 0 0 1 1;lure 0 0 1 1;lure 0 0 1 1;walker 7 7 7 9;"
                + "walker 0 0 0 0;walker 0 0 0 0;walker 0 0 0 0;walker 0 0 0 0"), 5);
        Due.is("lures", x.count(2), 6);
        Due.is("set", x.count(7), 63);
    }

    private static void row(LureTown x, boolean isLure, int who, int... due) {
        for (int what = 0; what < due.length; what++) {
            Due.is((isLure ? "lure " : "walker ") + who + " " + what, isLure ? x.lure(who, what) : x.walker(who, what), due[what]);
        }
    }

    private static void whatStays() {
        LureTown x = Due.townOf("town 2;way 0 1;walker 0 1 0 0;lure 1 0 1 5");
        Due.rule(x, "go 1");
        x.force(0);
        x.seed(77);
        x.note(0, 0, 0);
        x.image(1);
        x.force(-1);
        x.step();
        Due.is("charge", x.count(9), 5);
        Due.is("a fault", Due.town(x, "town 3;"), Due.fault(7, 0));
        int[] kept = {2, 1, 1, 1, 1, -1, 1, 0, 1, 5, 1, 1, 77, 7};
        for (int i = 0; i < kept.length; i++) {
            Due.is("behind a fault count(" + i + ")", x.count(i), kept[i]);
        }
        x.force(0);
        Due.is("another town", Due.town(x, "town 3;walker 2 2 1 1"), 1);
        int[] anew = {3, 0, 0, 1, 1, 0, 0, 0, 1, 0, 0, 0, 77, 0};
        for (int i = 0; i < anew.length; i++) {
            Due.is("of another town count(" + i + ")", x.count(i), anew[i]);
        }
        Due.is("no undo", x.undo(), -1);
        Due.is("images stay", x.back(1), 0);
        Due.is("corners", x.count(0), 2);
        Due.is("notes", x.count(10), 1);
    }

    /** Nothing of a text with a fault is left in the next one. */
    private static void anewBehindFaults() {
        LureTown x = new LureTown();
        Due.is("a fault", Due.town(x, "town 3;way 0 1;way 0 2;lure 0 0 1 1;walker 0 0 0 0;x"), Due.fault(51, 0));
        Due.is("anew", Due.town(x, "town 3;way 1 2;walker 1 2 3 4"), 1);
        int[] counts = {3, 1, 0, 1, 0, -1, 0, 0, 0, 0, 0, 0, 0, 0};
        for (int i = 0; i < counts.length; i++) {
            Due.is("anew count(" + i + ")", x.count(i), counts[i]);
        }
        Due.is("ways(0)", x.ways(0), 0);
        Due.is("ways(1)", x.ways(1), 4);
        Due.is("far", x.far(0), 1);
        Due.is("a way without town", Due.town(x, "way 0 1"), Due.fault(0, 4));
        Due.is("corners stay", x.count(0), 3);
    }

    private static void signs() {
        Due.townFault("", 0, 0);
        Due.townFault("   ", 3, 0);
        Due.townFault("town", 4, 0);
        Due.townFault("town ", 5, 0);
        Due.townFault("towns 2", 0, 0);
        Due.townFault("townz 2", 0, 0);
        Due.townFault("Town 2", 0, 0);
        Due.townFault(" tow 2", 1, 0);
        Due.townFault("2", 0, 0);
        Due.townFault(";", 0, 0);
        Due.townFault("go 1", 0, 0);
        Due.townFault("town x", 5, 0);
        Due.townFault("town -2", 5, 0);
        Due.townFault("town 2;", 7, 0);
        Due.townFault("town 2; ", 8, 0);
        Due.townFault("town 2;;", 7, 0);
        Due.townFault("town 2 2", 7, 0);
        Due.townFault("town 2 222222", 7, 0);
        Due.townFault("town 2 way 0 1", 7, 0);
        Due.townFault("town 2\u0000", 6, 0);
        Due.townFault("town 2\u0009", 6, 0);
        Due.townFault("town 2;way 0", 12, 0);
        Due.townFault("town 2;way 0,1", 12, 0);
        Due.townFault("town 2;way 01", 13, 0);
        Due.townFault("town 2;way 0;way", 12, 0);
        Due.townFault("town 2;lure 0 0 1", 17, 0);
        Due.townFault("town 2;lure 0 0 1 1 1", 20, 0);
        Due.townFault("town 2;walker 0 0 0", 19, 0);
        Due.townFault("town 2;walker 0 walker", 16, 0);
        Due.townFault("town 2;wal ker 0 0 0 0", 7, 0);
    }

    private static void numbers() {
        Due.townFault("town 1", 5, 1);
        Due.townFault("town 9", 5, 1);
        Due.townFault("town 000002", 5, 1);
        Due.townFault("town 2;way 2 0", 11, 1);
        Due.townFault("town 2;way 0 2", 13, 1);
        Due.townFault("town 2;way 0 0", 13, 1);
        Due.townFault("town 2;way 1  01", 14, 1);
        Due.townFault("town 2;lure 2 0 1 1", 12, 1);
        Due.townFault("town 2;lure 0 8 1 1", 14, 1);
        Due.townFault("town 2;lure 0 0 0 1", 16, 1);
        Due.townFault("town 2;lure 0 0 10 1", 16, 1);
        Due.townFault("town 2;lure 0 0 1 0", 18, 1);
        Due.townFault("town 2;lure 0 0 1 21", 18, 1);
        Due.townFault("town 2;lure 0 0 1 000001", 18, 1);
        Due.townFault("town 2;walker 2 0 0 0", 14, 1);
        Due.townFault("town 2;walker 0 2 0 0", 16, 1);
        Due.townFault("town 2;walker 0 0 8 0", 18, 1);
        Due.townFault("town 2;walker 0 0 0 10", 20, 1);
        // the first along the text
        Due.townFault("town 2;way 5 x;town 2", 11, 1);
    }

    private static void clauses() {
        Due.townFault("way 0 1", 0, 4);
        Due.townFault(" walker", 1, 4);
        Due.townFault("lure;town 2", 0, 4);
        Due.townFault("town 2;town 2", 7, 4);
        Due.townFault("town 2; town", 8, 4);
        String lures = "town 2" + ";lure 0 0 1 1".repeat(6);
        Due.townFault(lures + ";lure 0 0 1 1", lures.length() + 1, 4);
        Due.townFault(lures + ";lure x", lures.length() + 1, 4);
        String walkers = "town 2" + ";walker 0 0 0 0".repeat(5);
        Due.townFault(walkers + "; walker 0 0 0 0", walkers.length() + 2, 4);
        String full = "town 2" + ";way 0 1".repeat(39);
        Due.is("forty clauses", Due.town(new LureTown(), full), 0);
        Due.townFault(full + ";way 0 1", full.length() + 1, 4);
        Due.townFault(full + ";town 2", full.length() + 1, 4);
        // of one place the least
        Due.townFault(full + ";ways", full.length() + 1, 0);
        Due.townFault(full + ";", full.length() + 1, 0);
        Due.townFault("town 2" + ";way 0 1".repeat(49), full.length() + 1, 4);
    }
}
