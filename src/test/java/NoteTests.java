/** Promises 25, 26 and 30 to 32: notes and what they tell. */
public final class NoteTests {
    /** A walker by a lure of kind 2: who was had is wary, and goes by the rule to 2, else to 1. */
    private static final String TOWN = "town 4;way 0 1;way 0 2;way 0 3;lure 0 2 5 3;walker 0 0 2 3;walker 3 0 1 1";

    public static void main(String[] args) {
        note();
        hearts();
        waries();
        ruled();
        look();
        Due.leave();
    }

    private static void note() {
        LureTown x = Due.townOf(TOWN);
        Due.is("note", x.note(0, 0, 0), 1);
        Due.is("note", x.note(60, 1, 3), 2);
        Due.is("n too great", x.note(61, 0, 0), -2);
        Due.is("n below", x.note(-2, 0, 0), -2);
        Due.is("no such walker", x.note(0, 2, 0), -2);
        Due.is("no such walker", x.note(0, -1, 0), -2);
        Due.is("no such corner", x.note(0, 0, 4), -2);
        Due.is("no such corner", x.note(0, 0, -1), -2);
        Due.is("notes", x.count(10), 2);
        for (int i = 3; i <= 10; i++) {
            Due.is("the same again", x.note(0, 0, 0), i);
        }
        Due.is("an eleventh", x.note(0, 0, 0), -2);
        Due.is("notes", x.count(10), 10);
        Due.is("none", x.note(-1, 99, 99), 0);
        Due.is("notes", x.count(10), 0);
        Due.is("anew", x.note(5, 1, 1), 1);
    }

    private static void hearts() {
        LureTown x = Due.townOf(TOWN);
        Due.rule(x, "go 1 if walker = 1 and corner = from;go 1 if step = 1 and charge > 0 and corner = 2;go 1 if step = 1 and charge = 0 and corner = 1");
        x.force(0);
        Due.is("no notes", x.hearts(0), 255);
        x.note(2, 0, 2);
        Due.is("only who was had", x.hearts(0), 4);
        Due.is("of the other all", x.hearts(1), 255);
        x.note(-1, 0, 0);
        x.note(2, 0, 1);
        Due.is("who was not had", x.hearts(0), 251);
        Due.is("of the other none", x.hearts(1), 0);
        // by the text, whatever was done by hand
        x.bait(0, 5);
        x.calm(0, 9);
        x.move(0, 3);
        x.step();
        x.step();
        Due.is("from the begin", x.hearts(0), 251);
        Due.is("heart stays", x.walker(0, 2), 2);
        x.note(2, 1, 0);
        Due.is("all notes", x.hearts(0), 0);
        x.note(-1, 0, 0);
        x.note(0, 0, 1);
        Due.is("not at the begin", x.hearts(0), 0);
        x.force(-1);
        x.note(-1, 0, 0);
        x.note(2, 1, 0);
        Due.is("by the rule in force", x.hearts(0), 255);
        Due.is("hearts(2)", x.hearts(2), -1);
        Due.is("hearts(-1)", x.hearts(-1), -1);
    }

    private static void waries() {
        LureTown x = Due.townOf(TOWN);
        Due.rule(x, "go 1 if walker = 1 and corner = from;go 1 if step = 1 and charge > 0 and corner = 2;go 1 if step = 1 and charge = 0 and corner = 1");
        x.force(0);
        Due.is("no notes", x.waries(0), 1023);
        x.note(2, 0, 2);
        Due.is("guile is more", x.waries(0), 31);
        x.note(2, 0, 1);
        Due.is("both can't be", x.waries(0), 0);
        x.note(-1, 0, 0);
        x.note(2, 0, 1);
        x.calm(0, 9);
        Due.is("guile is not more", x.waries(0), 1023 - 31);
        Due.is("wary stays", x.walker(0, 3), 9);
        Due.is("waries(2)", x.waries(2), -1);
        Due.is("waries(-1)", x.waries(-1), -1);
    }

    private static void ruled() {
        LureTown x = Due.townOf(TOWN);
        Due.is("no rules: none", x.ruled(0), 1);
        Due.is("none", x.ruled(1), -1);
        Due.rule(x, "go 1 if corner = 3");
        Due.rule(x, "go 1 if corner = 2");
        Due.rule(x, "go 1 if corner = 3");
        x.force(1);
        Due.is("all", x.ruled(0), 4);
        Due.is("none ahead of 0", x.ruled(1), -1);
        x.note(1, 0, 3);
        Due.is("two", x.ruled(0), 2);
        Due.is("the first", x.ruled(1), 0);
        x.note(1, 1, 0);
        Due.is("none such", x.ruled(0), 0);
        Due.is("none such", x.ruled(1), -2);
        x.note(-1, 0, 0);
        x.note(1, 1, 0);
        Due.is("none alone", x.ruled(0), 1);
        Due.is("none alone", x.ruled(1), -1);
        x.note(-1, 0, 0);
        x.note(1, 1, 3);
        Due.is("three", x.ruled(0), 3);
        x.note(1, 0, 2);
        Due.is("one", x.ruled(0), 1);
        Due.is("which", x.ruled(1), 1);
        x.step();
        Due.is("from the begin", x.ruled(1), 1);
        Due.is("ruled(2)", x.ruled(2), -3);
        Due.is("ruled(-1)", x.ruled(-1), -3);
    }

    private static void look() {
        LureTown x = Due.townOf(TOWN);
        Due.is("none alone", x.look(1, 0), 0);
        Due.is("one", x.look(1, 1), 1);
        Due.rule(x, "go 1 if walker = 0 and corner = 3");
        Due.rule(x, "go 1 if walker = 0 and corner = 2");
        Due.rule(x, "go 1 if corner = 0");
        // behind step 1 walker 0 is at 0, 3, 2, 0 and walker 1 at 0, 3, 3, 0
        Due.is("least of several", x.look(1, 0), 0);
        Due.is("two alike", x.look(1, 1), 2);
        Due.is("behind no step", x.look(0, 0), 0);
        Due.is("all alike", x.look(0, 1), 4);
        x.note(1, 1, 3);
        Due.is("these part", x.look(1, 0), 0);
        Due.is("one each", x.look(1, 1), 1);
        x.note(-1, 0, 0);
        x.note(1, 0, 0);
        // none and rule 2 are so: walker 1 is at 0 by both
        Due.is("two of both", x.look(60, 1), 2);
        x.note(1, 1, 2);
        Due.is("no rule is so", x.look(1, 0), -2);
        Due.is("no rule is so", x.look(1, 1), -2);
        Due.is("n 61", x.look(61, 0), -1);
        Due.is("n -1", x.look(-1, 0), -1);
        Due.is("what 2", x.look(1, 2), -1);
        Due.is("what -1", x.look(1, -1), -1);
        Due.is("no walkers", Due.townOf("town 2").look(1, 0), -2);
        // from the begin again, however late the notes are: behind step 1 they are at 1, behind step 2 at 2 or still at 1
        LureTown y = Due.townOf("town 4;way 0 1;way 1 2;way 2 3;walker 0 2 0 0");
        Due.rule(y, "go corner + 1 if corner < 2");
        Due.rule(y, "go corner + 1");
        y.note(1, 0, 1);
        Due.is("behind step 1", y.look(1, 1), 3);
        Due.is("behind step 2", y.look(2, 1), 2);
        Due.is("behind step 3", y.look(3, 1), 1);
        y.note(2, 0, 2);
        Due.is("behind step 2", y.look(2, 1), 2);
        Due.is("behind step 3", y.look(3, 1), 1);
        x = Due.townOf("town 3;way 0 1;way 0 2;walker 0 0 0 0;walker 0 0 0 0;walker 0 0 0 0");
        Due.rule(x, "go 1 if walker > 0 and corner = 1");
        Due.rule(x, "go 1 if walker = 2 and corner = 2 or walker = 1 and corner = 1");
        // walker 0 stays, walker 1 is at 0, 1, 1, walker 2 at 0, 1, 2
        Due.is("the one who parts best", x.look(1, 0), 2);
        Due.is("one each", x.look(1, 1), 1);
    }
}
