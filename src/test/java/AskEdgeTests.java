/** The edges of what is asked (part III), of notes, draws, nights and images: a test of its own for each sentence that names one. */
public final class AskEdgeTests {
    private static final String TWO = "town 2;way 0 1;";
    private static final String ROW = "town 8;way 0 1;way 1 2;way 2 3;way 3 4;way 4 5;way 5 6;way 6 7;";

    public static void main(String[] args) {
        byTheRuleInForce();
        aheadHundred();
        hadOfTwoHundred();
        firstTheLeast();
        far();
        safe();
        stuck();
        bestOfForty();
        kindOfForty();
        cover();
        hearts();
        waries();
        restsOfTwenty();
        ringOfSixty();
        ringSetAndSprung();
        pence();
        notes();
        ruled();
        look();
        draws();
        nightsTimes();
        nightsDraws();
        nightsSetAgain();
        images();
        Due.leave();
    }

    private static LureTown ruled(String town, String rule) {
        LureTown x = Due.townOf(town);
        Due.is("rule '" + rule + "'", Due.rule(x, rule), 0);
        x.force(0);
        return x;
    }

    // ---- how it goes on ----

    private static void byTheRuleInForce() {
        Due.words("(By what is asked nothing changes; STEPS go on by the RULE IN FORCE.)");
        LureTown x = Due.townOf(TWO + "lure 1 0 9 5;lure 0 0 9 3;walker 0 1 0 0");
        Due.rule(x, "go 1 if corner = 0");
        for (int i = 0; i < 2; i++) {
            int lure = i == 0 ? 0 : 1;
            Due.is("ahead", x.ahead(0, 1, 0), 1 - i);
            Due.is("had", x.had(0, 1), lure);
            Due.is("nights", x.nights(1, 1, 0, 0), i == 0 ? 5 : 3);
            Due.is("best", x.best(lure, 1, 0), 1 - i);
            Due.is("far is by ways", x.far(0), 1);
            Due.is("hearts", x.hearts(0), 255);
            Due.is("STEP", x.count(6), 0);
            Due.is("charges", x.count(9), 0);
            x.force(0);
        }
    }

    private static void aheadHundred() {
        Due.words("AHEAD n STEPS (0 to 100): the CORNER of a WALKER; their CHARGE; LURES that are SET, as bits.");
        LureTown x = ruled(TWO + "lure 1 0 9 5;lure 0 1 9 5;walker 0 0 0 0", "go 1 if step > 98 and corner = 1");
        int[] steps = {0, 99, 100};
        int[][] due = {{0, 0, 3}, {0, 0, 3}, {1, 5, 2}};
        for (int i = 0; i < 3; i++) {
            for (int what = 0; what < 3; what++) {
                Due.is("ahead(0, " + steps[i] + ", " + what + ")", x.ahead(0, steps[i], what), due[i][what]);
                Due.is("beyond", x.ahead(0, 101, what), -1);
                Due.is("below", x.ahead(0, -1, what), -1);
            }
        }
    }

    private static void hadOfTwoHundred() {
        Due.words("HAD of a WALKER: the first STEP, this one the first, of 200, in which they are HAD; by which LURE.");
        for (int step : new int[] {0, 1, 199, 200}) {
            LureTown x = ruled(TWO + "lure 1 1 9 5;lure 1 0 9 5;walker 0 0 0 0", "go 1 if step >= " + step + " and corner = 1");
            boolean inTime = step < 200;
            Due.is("had in " + step, x.had(0, 0), inTime ? step : -2);
            Due.is("by which in " + step, x.had(0, 1), inTime ? 1 : -2);
            Due.is("first in " + step, x.first(0), inTime ? step : -2);
            Due.is("who in " + step, x.first(1), inTime ? 0 : -2);
            x.step();
            // one step later the 200 reach one further; who was had in step 0 is not had again
            Due.is("then had in " + step, x.had(0, 0), step == 0 ? -2 : step);
        }
        LureTown x = Due.townOf("town 2;lure 0 0 9 5;lure 0 0 9 6;walker 0 0 0 0");
        Due.is("the first of two", x.had(0, 0) * 10 + x.had(0, 1), 0);
        x.step();
        Due.is("the second of two", x.had(0, 0) * 10 + x.had(0, 1), 11);
        x.step();
        Due.is("no more", x.had(0, 0), -2);
    }

    private static void firstTheLeast() {
        Due.words("FIRST: likewise of any WALKER; who, the least.");
        LureTown x = Due.townOf("town 3;way 0 1;way 1 2;lure 1 0 9 5;lure 2 0 9 5;lure 0 1 9 5;walker 0 0 2 0;walker 0 1 0 0;walker 1 2 0 0;walker 1 0 1 0");
        Due.is("this step", x.first(0), 0);
        Due.is("of three", x.first(1), 1);
        Due.is("all three", x.step(), 2 + 4 + 8);
        Due.is("no more", x.first(0), -2);
        Due.is("no more", x.first(1), -2);
        // the one who is had first, not the least who is had
        x = Due.townOf("town 3;way 0 1;way 1 2;lure 2 0 9 5;lure 2 0 9 5;walker 0 2 0 0;walker 1 2 0 0");
        Due.is("the one who is nearer", x.first(1), 1);
        Due.is("in step 0", x.first(0), 0);
    }

    private static void far() {
        Due.words("FAR of a WALKER: how many WAYS it is HOME now.");
        LureTown x = Due.townOf(ROW + "walker 0 7 0 0;walker 7 7 0 0;walker 7 6 0 0");
        Due.is("the most", x.far(0), 7);
        Due.is("none", x.far(1), 0);
        Due.is("one", x.far(2), 1);
        x.step();
        Due.is("now", x.far(0), 6);
        Due.is("at home now", x.far(2), 0);
        Due.is("no row", Due.townOf("town 8;way 0 1;way 6 7;walker 0 7 0 0").far(0), -2);
    }

    private static void safe() {
        Due.words("SAFE of a WALKER: the fewest WAYS HOME, by CORNERS (HOME, too, but not the one they are at) at none of which a LURE that is SET now would have them now (0 at HOME).");
        LureTown x = Due.townOf(ROW + "walker 0 7 0 3;lure 0 0 9 1");
        Due.is("where they are a lure is nothing", x.safe(0), 7);
        for (int c = 1; c <= 7; c++) {
            x.move(0, c);
            Due.is("a lure at " + c, x.safe(0), -2);
        }
        x.calm(0, 9);
        Due.is("wary", x.safe(0), 7);
        x.calm(0, 8);
        Due.is("less wary", x.safe(0), -2);
        x.bait(0, 1);
        Due.is("of another kind", x.safe(0), 7);
        x = Due.townOf(TWO + "walker 1 1 0 0;lure 1 0 9 1;walker 0 1 0 0");
        Due.is("at home with a lure", x.safe(0), 0);
        Due.is("home has a lure", x.safe(1), -2);
        x.step();
        Due.is("it was walker 0", x.walker(0, 4), 1);
        Due.is("sprung", x.safe(1), 0);
        // around a lure, by more ways than it is far
        x = Due.townOf("town 5;way 0 4;way 4 1;way 0 2;way 2 3;way 3 1;lure 4 0 9 1;walker 0 1 0 0");
        Due.is("around", x.safe(0), 3);
        Due.is("far", x.far(0), 2);
        // the least corner is asked like any other
        x = Due.townOf("town 3;way 1 0;way 0 2;lure 0 0 9 1;walker 1 2 0 0;walker 1 0 0 0;walker 1 0 1 0");
        Due.is("by 0", x.safe(0), -2);
        Due.is("to 0", x.safe(1), -2);
        Due.is("to 0 of another heart", x.safe(2), 1);
    }

    private static void stuck() {
        Due.words("STUCK: CORNERS that all rows of WAYS from the CORNER of a WALKER HOME go through, both of these, too, as bits (0, if there is no row; at HOME that one alone).");
        LureTown x = Due.townOf(ROW + "walker 0 7 0 0;walker 7 0 0 0;walker 5 5 0 0;walker 3 4 0 0");
        Due.is("all eight", x.stuck(0), 255);
        Due.is("all eight back", x.stuck(1), 255);
        Due.is("at home", x.stuck(2), 32);
        Due.is("two", x.stuck(3), 24);
        x = Due.townOf("town 8;way 0 1;way 1 7;way 0 2;way 2 7;way 5 6;walker 0 7 0 0;walker 0 5 0 0;walker 3 4 0 0;walker 4 4 0 0");
        Due.is("both alone", x.stuck(0), 129);
        Due.is("no row", x.stuck(1), 0);
        Due.is("no ways at all", x.stuck(2), 0);
        Due.is("at home without ways", x.stuck(3), 16);
        // the least corner and the greatest between two others
        Due.is("by 0", Due.townOf("town 8;way 1 0;way 0 2;walker 1 2 0 0").stuck(0), 7);
        Due.is("by 7", Due.townOf("town 8;way 1 7;way 7 2;walker 1 2 0 0").stuck(0), 134);
    }

    // ---- where a lure had best lie ----

    private static void bestOfForty() {
        Due.words("BEST of a LURE that is SET for n STEPS (1 to 40): the CORNER at which it had best lie now, where it does, too, so that CHARGES of all are most then; of several where it does, then the least: which; how much.");
        // the walker is at 0 till step 39 begins
        LureTown x = ruled(TWO + "lure 1 0 9 5;walker 0 0 0 0", "go 1 if step > 38 and corner = 1");
        Due.is("in 40 where it lies", x.best(0, 40, 0), 1);
        Due.is("in 39 the other", x.best(0, 39, 0), 0);
        Due.is("in one the other", x.best(0, 1, 0), 0);
        Due.is("how much", x.best(0, 1, 1), 5);
        Due.is("n 0", x.best(0, 0, 1), -1);
        Due.is("n 41", x.best(0, 41, 1), -1);
        // of several the least, if none of them is where it lies
        x = Due.townOf("town 5;way 4 3;way 3 2;lure 0 0 9 5;walker 4 2 0 0");
        Due.is("of 2 and 3", x.best(0, 2, 0), 2);
        Due.is("of 3 alone", x.best(0, 1, 0), 3);
        x.move(0, 3);
        Due.is("where it lies", x.best(0, 2, 0), 3);
        x.move(0, 1);
        x.bait(0, 1);
        Due.is("of none where it lies", x.best(0, 40, 0), 1);
        Due.is("nothing", x.best(0, 40, 1), 0);
    }

    private static void kindOfForty() {
        Due.words("KIND of a LURE that is SET for n STEPS (1 to 40): likewise the KIND, 0 to 7.");
        LureTown x = ruled(TWO + "lure 1 4 9 5;walker 0 0 7 0", "go 1 if step > 38 and corner = 1");
        Due.is("in 40", x.kind(0, 40, 0), 7);
        Due.is("how much in 40", x.kind(0, 40, 1), 5);
        Due.is("in 39 its own", x.kind(0, 39, 0), 4);
        Due.is("nothing in 39", x.kind(0, 39, 1), 0);
        Due.is("n 0", x.kind(0, 0, 1), -1);
        Due.is("n 41", x.kind(0, 41, 1), -1);
        // of several its own, then the least
        x = Due.townOf("town 2;lure 0 5 9 5;walker 0 0 6 0;walker 0 0 0 0;walker 0 0 3 0");
        Due.is("the least", x.kind(0, 1, 0), 0);
        x.bait(0, 6);
        Due.is("its own", x.kind(0, 1, 0), 6);
    }

    private static void cover() {
        Due.words("COVER: the fewest CORNERS so that each WAY has one of them; of several sets the least as bits: how many; the set.");
        covers("town 8", 0, 0);
        covers(TWO + "way 1 0", 1, 1);
        covers("town 8;way 7 6", 1, 64);
        covers(ROW.substring(0, ROW.length() - 1), 4, 1 + 4 + 16 + 64);
        covers("town 3;way 0 1;way 1 2;way 2 0", 2, 3);
        covers("town 4;way 3 0;way 3 1;way 3 2", 1, 8);
        StringBuilder all = new StringBuilder("town 8");
        for (int a = 0; a < 8; a++) {
            for (int b = 0; b < a; b++) {
                all.append(";way ").append(a).append(' ').append(b);
            }
        }
        covers(all.toString(), 7, 127);
    }

    private static void covers(String town, int many, int set) {
        LureTown x = Due.townOf(town);
        Due.is("how many of " + town, x.cover(0), many);
        Due.is("the set of " + town, x.cover(1), set);
    }

    // ---- notes ----

    private static void hearts() {
        Due.words("HEARTS of a WALKER: 0 to 7 as HEART, in place of what the text told, so that from the begin on, by the RULE IN FORCE, all else as the text told it, all NOTES are so, as bits.");
        for (int kind : new int[] {0, 7}) {
            LureTown x = ruled("town 3;way 0 1;way 0 2;lure 0 " + kind + " 9 5;walker 0 0 3 0", "go 1 if step = 1 and charge = 5 and corner = 1;go 1 if step = 1 and charge = 0 and corner = 2");
            Due.is("no notes", x.hearts(0), 255);
            x.note(2, 0, 1);
            Due.is("had", x.hearts(0), 1 << kind);
            x.note(0, 0, 0);
            Due.is("had, and at 0 first", x.hearts(0), 1 << kind);
            x.note(2, 0, 2);
            Due.is("both", x.hearts(0), 0);
            x.note(-1, 0, 0);
            x.note(2, 0, 2);
            Due.is("not had", x.hearts(0), 255 - (1 << kind));
            // acts by hand are nothing to the text
            x.bait(0, 4);
            x.move(0, 2);
            Due.is("not had still", x.hearts(0), 255 - (1 << kind));
            x.force(-1);
            Due.is("by no rule", x.hearts(0), 0);
        }
    }

    private static void waries() {
        Due.words("WARIES of a WALKER: likewise 0 to 9 as WARY.");
        for (int guile : new int[] {1, 9}) {
            LureTown x = ruled("town 3;way 0 1;way 0 2;lure 0 3 " + guile + " 5;walker 0 0 3 5", "go 1 if step = 1 and charge = 5 and corner = 1;go 1 if step = 1 and charge = 0 and corner = 2");
            Due.is("no notes", x.waries(0), 1023);
            x.note(2, 0, 1);
            Due.is("had", x.waries(0), (1 << guile) - 1);
            x.note(2, 0, 2);
            Due.is("both", x.waries(0), 0);
            x.note(-1, 0, 0);
            x.note(2, 0, 2);
            Due.is("not had", x.waries(0), 1024 - (1 << guile));
            x.calm(0, 0);
            Due.is("not had still", x.waries(0), 1024 - (1 << guile));
        }
    }

    private static void restsOfTwenty() {
        Due.words("RESTS of two LURES that are SET for n STEPS (1 to 20): each lies at any CORNER from now on: each has its CHARGE, if it is SPRUNG then, else 1, if any WALKER is at its CORNER then, else 0");
        // at 0 till step 19 begins; lure 0 has the walker where he comes, lure 1 gains where he is at the end
        LureTown x = ruled(TWO + "lure 0 0 9 5;lure 0 1 9 5;walker 0 0 0 0", "go 1 if step > 18 and corner = 1");
        rest(x, 19, 1, 0, 0);
        rest(x, 20, 2, 0, 1);
        Due.is("n 0", x.rests(0, 1, 0, 0), -1);
        Due.is("n 21", x.rests(0, 1, 21, 0), -1);
        // who was had by the one is where the other lies: each at 0, and nowhere else
        x = Due.townOf("town 3;lure 0 0 9 1;lure 0 1 9 20;walker 0 0 0 0");
        rest(x, 1, 1, 0, 0);

        Due.words("twos of which neither would have more by another CORNER: how many; the first (by the first one, then the second one).");
        x = Due.townOf("town 8;lure 3 0 9 5;lure 5 0 9 5");
        rest(x, 20, 64, 0, 0);
        Due.town(x, "town 3;lure 1 0 9 5;lure 2 0 9 5");
        rest(x, 20, 9, 0, 0);
        // each by a walker of their own, who go to 2 and to 6
        x = Due.townOf("town 8;way 7 6;way 1 2;lure 0 0 9 5;lure 0 1 9 3;walker 7 6 0 0;walker 1 2 1 0");
        rest(x, 1, 1, 6, 2);
        Due.is("the other way round", x.rests(1, 0, 1, 1) * 10 + x.rests(1, 0, 1, 2), 26);
        // who is had by the first is too wary of the second, which has most where the first does not lie
        rest(Due.townOf("town 3;lure 0 0 9 5;lure 0 0 1 5;walker 2 2 0 0"), 2, 1, 2, 2);
        x = Due.townOf("town 8;lure 3 0 9 5;lure 5 0 9 5;walker 7 7 1 0;walker 6 6 2 0");
        rest(x, 1, 4, 6, 6);
        noRest();
    }

    private static void rest(LureTown x, int n, int many, int one, int other) {
        Due.is("rests for " + n, x.rests(0, 1, n, 0), many);
        Due.is("the first one's corner for " + n, x.rests(0, 1, n, 1), one);
        Due.is("the second one's corner for " + n, x.rests(0, 1, n, 2), other);
    }

    /** The first gains by lying together, the second by lying apart: -2 for the first two. */
    private static void noRest() {
        LureTown x = ruled("town 3;way 0 1;way 1 2;way 0 2;lure 0 1 5 3;lure 1 2 5 2;walker 2 2 1 0;walker 2 2 2 0",
                "go 2 if walker = 0 and lures = 2;go 2 if walker = 1 and lures = 1 and mine = 1;go 1 if lures = 0");
        rest(x, 1, 0, -2, -2);
    }

    // ---- rings ----

    /** Two walkers who count steps by their corners are nowhere twice, but for what a rule's first clauses say. */
    private static LureTown counting(String clauses) {
        StringBuilder text = new StringBuilder("town 8;walker 7 7 0 0;walker 7 7 0 0");
        for (int a = 0; a < 8; a++) {
            for (int b = 0; b < a; b++) {
                text.append(";way ").append(a).append(' ').append(b);
            }
        }
        return ruled(text.toString(), clauses + "go 1 if walker = 0 and corner = step % 8;go 1 if walker = 1 and corner = step / 8 % 8");
    }

    private static void ringOfSixty() {
        Due.words("RING: the first STEP, this one the first, of 60, at whose begin all WALKERS are where they are at the begin of a later one");
        ring(counting("go 1 if step = 59 and corner = from;go 0 if step = 59;"), 59, 1);
        ring(counting("go 1 if step = 60 and corner = from;go 0 if step = 60;"), -2, -2);
        ring(counting("go 1 if step = 0 and corner = from;go 0 if step = 0;"), 0, 1);
        Due.words("60 STEPS from now at most; how much later the first such is.");
        // corners as at the begin come again behind 60 steps, or one too late
        ring(counting("go 1 if step = 59 and corner = 7;go 0 if step = 59;"), 0, 60);
        ring(counting("go 1 if step = 60 and corner = 7;go 0 if step = 60;"), -2, -2);
        LureTown x = counting("go 1 if step = 60 and corner = 7;go 0 if step = 60;");
        x.step();
        ring(x, -2, -2);
        x = counting("go 1 if step = 60 and corner = from;go 0 if step = 60;");
        x.step();
        ring(x, 60, 1);
        // nobody is where nobody was
        ring(Due.townOf("town 2"), 0, 1);
        ring(Due.townOf("town 2" + ";walker 0 1 0 0".repeat(5)), 0, 1);
        // of several later ones the first
        x = ruled(TWO + "walker 0 0 0 0", "go 1 if corner = 1 - from");
        ring(x, 0, 2);
        x.step();
        ring(x, 1, 2);
    }

    private static void ring(LureTown x, int step, int later) {
        Due.is("the step", x.ring(0), step);
        Due.is("how much later", x.ring(1), later);
    }

    private static void ringSetAndSprung() {
        Due.words("and no LURE that is SET at the one is SPRUNG at the other");
        LureTown x = Due.townOf("town 2;lure 0 0 9 1;lure 0 0 9 1;walker 0 0 0 0");
        ring(x, 2, 1);
        x.step();
        ring(x, 2, 1);
        x.step();
        ring(x, 2, 1);
        x.set(0, 1);
        ring(x, 2, 1);
        ring(Due.townOf("town 2" + ";lure 0 0 9 1".repeat(6) + ";walker 0 0 0 0"), 6, 1);
    }

    // ---- pence ----

    private static void pence() {
        Due.words("PENCE (0 to 9999) among WALKERS by CHARGE: each the part downwards; what is left, one each, to those whose part lost most by that, of several the least first (nothing, if nobody has any).");
        LureTown x = Due.townOf("town 2;lure 0 0 9 1;lure 0 1 9 1;lure 0 2 9 1;lure 0 3 9 1;walker 0 0 0 0;walker 0 0 1 0;walker 0 0 7 0;walker 0 0 2 0");
        share(x, 9999, 0, 0, 0, 0);
        x.step();
        // by 1, 1, 0 and 1
        share(x, 0, 0, 0, 0, 0);
        share(x, 1, 1, 0, 0, 0);
        share(x, 2, 1, 1, 0, 0);
        share(x, 3, 1, 1, 0, 1);
        share(x, 4, 2, 1, 0, 1);
        share(x, 9998, 3333, 3333, 0, 3332);
        share(x, 9999, 3333, 3333, 0, 3333);
        Due.is("too much", x.pence(10000, 0), -1);
        Due.is("too little", x.pence(-1, 0), -1);
        // by 20, 1 and 1 of 22: of 10 the parts are 9 and 2/22, 10/22, 10/22
        x = Due.townOf("town 2;lure 0 0 9 20;lure 0 1 9 1;lure 0 2 9 1;walker 0 0 0 0;walker 0 0 1 0;walker 0 0 2 0");
        x.step();
        share(x, 10, 9, 1, 0);
        share(x, 11, 10, 1, 0);
        share(x, 12, 11, 1, 0);
        share(x, 21, 19, 1, 1);
        share(x, 9999, 9090, 455, 454);
        // one who has a charge of 1, among five
        x = Due.townOf("town 2;lure 0 0 9 1;walker 0 0 1 0;walker 0 0 1 0;walker 0 0 1 0;walker 0 0 1 0;walker 0 0 0 0");
        share(x, 9999, 0, 0, 0, 0, 0);
        x.step();
        share(x, 9999, 0, 0, 0, 0, 9999);
        share(x, 1, 0, 0, 0, 0, 1);
        Due.is("of all", x.count(9), 1);
    }

    private static void share(LureTown x, int much, int... due) {
        for (int i = 0; i < due.length; i++) {
            Due.is("pence(" + much + ", " + i + ")", x.pence(much, i), due[i]);
        }
    }

    private static void notes() {
        Due.words("NOTES 0 to 9, told: behind the n-th STEP of all (0 to 60) a WALKER was at a CORNER.");
        LureTown x = ruled(TWO + "walker 0 0 0 0", "go 1 if step > 58 and corner = 1");
        Due.is("behind the 59th at 0", x.note(59, 0, 0), 1);
        Due.is("none are so that are not", x.ruled(0), 2);
        Due.is("behind the 60th at 1", x.note(60, 0, 1), 2);
        Due.is("the rule alone", x.ruled(0) * 10 + x.ruled(1), 10);
        Due.is("behind the 61st", x.note(61, 0, 1), -2);
        for (int i = 3; i <= 10; i++) {
            Due.is("note " + i, x.note(60, 0, 1), i);
        }
        Due.is("an eleventh", x.note(0, 0, 0), -2);
        Due.is("the tenth counts", x.ruled(0), 1);
        x.note(-1, 0, 0);
        for (int i = 1; i <= 9; i++) {
            x.note(0, 0, 0);
        }
        Due.is("nine are so", x.ruled(0), 2);
        Due.is("the tenth", x.note(0, 0, 1), 10);
        Due.is("the tenth is not", x.ruled(0), 0);
        // of all steps, not from now on
        x.note(-1, 0, 0);
        x.step();
        x.note(0, 0, 0);
        x.note(60, 0, 1);
        Due.is("from the begin", x.ruled(1), 0);
    }

    private static void ruled() {
        Due.words("RULED: which of the RULES, and of none, so that from the begin on, all as the text told it, all NOTES are so: how many; the first (none ahead of 0, told as NONE).");
        LureTown x = Due.townOf("town 3;way 0 1;way 0 2;walker 0 1 0 0");
        Due.is("none alone", x.ruled(0) * 10 + x.ruled(1), 9);
        for (int i = 0; i < 6; i++) {
            Due.rule(x, i == 5 ? "go 1 if corner = 2" : "go 1 if corner = 1");
        }
        Due.is("all and none", x.ruled(0), 7);
        Due.is("none ahead of 0", x.ruled(1), -1);
        x.note(1, 0, 2);
        Due.is("the last alone", x.ruled(0) * 10 + x.ruled(1), 15);
        x.note(1, 0, 1);
        Due.is("no such", x.ruled(0), 0);
        Due.is("no such", x.ruled(1), -2);
        // by the text, whatever acts there were, and whatever rule is in force
        x.note(-1, 0, 0);
        x.note(2, 0, 1);
        x.force(5);
        x.step();
        Due.is("none and five", x.ruled(0), 6);
        Due.is("no walkers", Due.townOf("town 2").ruled(0), 1);
    }

    private static void look() {
        Due.words("LOOK behind the n-th STEP: the WALKER by whose CORNER these part best: the most alike are fewest, of several the least; how many.");
        LureTown x = Due.townOf("town 4;way 0 1;way 0 2;way 0 3;walker 0 0 0 0;walker 0 0 0 0;walker 0 0 0 0");
        Due.rule(x, "go 1 if step = 59 and walker = 1 and corner = 1 or step = 59 and walker = 2 and corner = 1");
        Due.rule(x, "go 1 if step = 59 and walker = 1 and corner = 1 or step = 59 and walker = 2 and corner = 2");
        Due.rule(x, "go 1 if step = 59 and walker = 1 and corner = 2 or step = 59 and walker = 2 and corner = 3");
        // walker 0 stays; behind step 60 walker 1 is at 0, 1, 1, 2 and walker 2 at 0, 1, 2, 3
        Due.is("behind 0 steps", x.look(0, 0) * 10 + x.look(0, 1), 4);
        Due.is("behind 59 steps", x.look(59, 0) * 10 + x.look(59, 1), 4);
        Due.is("behind 60 steps", x.look(60, 0) * 10 + x.look(60, 1), 21);
        Due.is("behind 61 steps", x.look(61, 0), -1);
        x.note(60, 2, 0);
        Due.is("none alone", x.look(60, 0) * 10 + x.look(60, 1), 1);
        x.note(60, 2, 1);
        Due.is("nothing is so", x.look(60, 0), -2);
        // of several who part as well the least
        x = Due.townOf("town 3;way 0 1;way 0 2;walker 0 0 0 0;walker 0 0 0 0;walker 0 0 0 0");
        Due.rule(x, "go walker if corner = 1");
        Due.is("of 1 and 2", x.look(1, 0) * 10 + x.look(1, 1), 11);
        // each walker by their own corner: walker 0 is at 0 and 1, the other four stay where they are
        x = Due.townOf("town 2;way 0 1" + ";walker 0 0 0 0".repeat(5));
        Due.rule(x, "go 1 if walker = 0 and corner = 1");
        Due.is("walker 0 parts", x.look(1, 0) * 10 + x.look(1, 1), 1);
        // behind the n-th step from the begin, however late the notes are
        x = Due.townOf(ROW + "walker 0 7 0 0");
        Due.rule(x, "go corner");
        Due.rule(x, "go corner if step < 3");
        x.note(3, 0, 3);
        Due.is("behind 1 step", x.look(1, 1), 3);
        Due.is("behind 3 steps", x.look(3, 1), 3);
        Due.is("behind 4 steps", x.look(4, 1), 2);
        Due.is("behind 7 steps", x.look(7, 1), 2);
    }

    // ---- draws and nights ----

    private static void draws() {
        Due.words("DRAWS: x (0 to 2147483647; 0 at first) becomes x * 1103515245 + 12345, of 2147483648 the rest; a DRAW is x / 65536.");
        Due.is("x at first", new LureTown().count(12), 0);
        // a walker who is had by lure 1, set again or not: the first draw from 0 is 0, then 21468 (lure 0), 9988, 22117 (lure 1)
        LureTown x = Due.townOf("town 2;lure 1 0 9 4;lure 0 0 9 5;walker 0 0 0 0");
        x.step();
        Due.is("from 0: lure 0", x.nights(1, 1, 100, 0), 5);
        Due.is("from 0, two steps: lure 1", x.nights(1, 2, 100, 0), 10);
        Due.is("0 mod 100 is below 1", x.nights(2, 1, 1, 0), 10);
        // from 2147483647: 15929 mod 100 = 29, 4409 (lure 1)
        x.seed(2147483647);
        Due.is("from the most: lure 1", x.nights(1, 1, 100, 0), 10);
        Due.is("29 is not below 29", x.nights(1, 1, 29, 0), 5);
        Due.is("29 is below 30", x.nights(1, 1, 30, 0), 10);
        // 12345 is what 0 becomes: 21468 mod 100 = 68, then 9988 (lure 0)
        x.seed(12345);
        Due.is("68 is below 69: lure 0", x.nights(1, 1, 69, 1), 1);
        Due.is("68 is not below 68, next 9988 mod 100 = 88", x.nights(1, 2, 68, 0), 5);
        // then 22117 mod 100 = 17, 3498 (lure 0), 16927 mod 100 = 27, 16045 (lure 1)
        Due.is("the third has lure 0, the fourth lure 1", x.nights(1, 3, 68, 0) * 100 + x.nights(1, 4, 68, 0), 510);
        Due.is("x as it was", x.count(12), 12345);
        // from 3 the draws are 17747, and 465823161 / 65536 = 7107 (lure 1)
        x.seed(3);
        Due.is("lure 1", x.nights(1, 1, 100, 0), 10);
        // from 5 x becomes 1222621274: 18655 mod 100 = 55
        x.seed(5);
        Due.is("55 is not below 55", x.nights(1, 1, 55, 0), 5);
        Due.is("55 is below 56", x.nights(1, 1, 56, 0), 10);
    }

    private static void nightsTimes() {
        Due.words("NIGHTS m times (1 to 10) n STEPS (1 to 60) from now on");
        LureTown x = ruled(TWO + "lure 1 0 9 5;walker 0 0 0 0", "go 1 if step > 58 and corner = 1");
        Due.is("59 steps", x.nights(1, 59, 0, 0), 0);
        Due.is("60 steps", x.nights(1, 60, 0, 0), 5);
        Due.is("ten times", x.nights(10, 60, 0, 0), 50);
        Due.is("ten times set", x.nights(10, 59, 0, 1), 10);
        Due.is("ten times sprung", x.nights(10, 60, 0, 1), 0);
        Due.is("m 0", x.nights(0, 60, 0, 0), -1);
        Due.is("m 11", x.nights(11, 60, 0, 0), -1);
        Due.is("n 0", x.nights(1, 0, 0, 0), -1);
        Due.is("n 61", x.nights(1, 61, 0, 0), -1);
        x.step();
        Due.is("from now on", x.nights(1, 59, 0, 0), 5);
    }

    private static void nightsDraws() {
        Due.words("ahead of each a DRAW mod 100: is it below p (0 to 100), and are there LURES, a DRAW mod how many");
        // one lure, where the walker stays: it is set again whenever a draw is below p
        LureTown x = Due.townOf("town 2;lure 0 0 9 5;walker 0 0 0 0");
        // p 0: never; p 100: ahead of each step, so nine times in all, till he is as wary as can be
        Due.is("p 0", x.nights(1, 60, 0, 0), 5);
        Due.is("p 100", x.nights(1, 60, 100, 0), 45);
        Due.is("p 100, nine steps", x.nights(1, 9, 100, 0), 45);
        Due.is("p 100, eight steps", x.nights(1, 8, 100, 0), 40);
        Due.is("p -1", x.nights(1, 1, -1, 0), -1);
        Due.is("p 101", x.nights(1, 1, 101, 0), -1);
        Due.is("without lures nothing more is drawn, and nobody is had", Due.townOf("town 2;walker 0 0 0 0").nights(10, 60, 100, 0), 0);
        Due.is("without lures none is set", Due.townOf("town 2;walker 0 0 0 0").nights(10, 60, 100, 1), 0);
        ninetyNine();
    }

    /** An x whose first draw mod 100 is 99: below 100, not below 99. */
    private static void ninetyNine() {
        int seed = 0;
        while (((seed * 1103515245L + 12345) % 2147483648L) / 65536 % 100 != 99) {
            seed++;
        }
        LureTown x = Due.townOf("town 2;lure 0 0 9 5;walker 0 0 0 0");
        x.step();
        x.seed(seed);
        Due.is("99 is below 100", x.nights(1, 1, 100, 0), 10);
        Due.is("99 is not below 99", x.nights(1, 1, 99, 0), 5);
    }

    private static void nightsSetAgain() {
        Due.words("that one is SET again where it lies, if it is SPRUNG: CHARGES of all at the end; how many LURES are SET then, all together (nothing stays; x as it was).");
        LureTown x = Due.townOf("town 2;lure 0 0 9 5;lure 1 1 9 5;walker 0 0 0 0");
        x.step();
        // from 0 the draws choose lure 0, then 1, 1, 1: lure 0 is set where it lies, and springs anew
        Due.is("charges", x.nights(1, 1, 100, 0), 10);
        Due.is("set", x.nights(1, 1, 100, 1), 1);
        Due.is("three nights: lure 0, lure 1, lure 1", x.nights(3, 1, 100, 0), 10 + 5 + 5);
        Due.is("of three nights", x.nights(3, 1, 100, 1), 3);
        Due.is("STEP", x.count(6), 1);
        Due.is("charges stay", x.count(9), 5);
        Due.is("lures stay", x.count(7), 2);
        Due.is("wary stays", x.walker(0, 3), 1);
        Due.is("acts stay", x.count(11), 1);
        Due.is("x stays", x.count(12), 0);
        // one that is set already stays so
        x = Due.townOf("town 2;lure 1 1 9 5;walker 0 0 0 0");
        Due.is("set all along", x.nights(10, 60, 100, 1), 10);
    }

    // ---- images ----

    private static void images() {
        Due.words("IMAGES 0 to 3: all but the TAPE and the RULES, as it is (the RULE IN FORCE, too); gone back to, it is as it was (these stay; nothing can be UNDONE then).");
        LureTown x = Due.townOf(TWO + "lure 1 0 9 5;walker 0 1 0 0");
        for (int k = 0; k < 4; k++) {
            x.seed(k);
            Due.is("image " + k, x.image(k), k);
            x.step();
        }
        Due.rule(x, "go 1");
        x.force(0);
        Due.tape(x, "go 2");
        for (int k = 3; k >= 0; k--) {
            x.note(0, 0, 0);
            x.step();
            Due.is("back " + k, x.back(k), k);
            Due.is("STEP " + k, x.count(6), k);
            Due.is("x " + k, x.count(12), k);
            Due.is("charge " + k, x.count(9), k == 0 ? 0 : 5);
            Due.is("in force " + k, x.count(5), -1);
            Due.is("notes " + k, x.count(10), 0);
            Due.is("acts " + k, x.count(11), 0);
            Due.is("no undo " + k, x.undo(), -1);
            Due.is("rules stay " + k, x.count(4), 1);
            Due.is("the tape stays " + k, x.count(13), 4);
        }
        Due.is("images stay", x.back(2), 2);
        Due.is("the rule is there", x.force(0), -1);
        Due.is("the tape is read", x.rule(), 1);
        // the one that is made last is the one gone back to
        x.step();
        Due.is("anew", x.image(2), 3);
        x.step();
        Due.is("the new one", x.back(2), 3);
        Due.is("its rule in force", x.count(5), 0);
        Due.is("the others as they were", x.back(3) * 10 + x.back(1), 31);
        imageOfNotes();
    }

    /** Notes are as they were, with what they tell. */
    private static void imageOfNotes() {
        LureTown x = Due.townOf(TWO + "walker 0 1 0 0;walker 1 0 0 0");
        x.note(1, 0, 1);
        x.image(0);
        Due.is("so", x.ruled(0), 1);
        for (int[] other : new int[][] {{0, 0, 1}, {1, 0, 0}, {1, 1, 1}}) {
            x.note(-1, 0, 0);
            x.note(other[0], other[1], other[2]);
            Due.is("not so", x.ruled(0), 0);
            x.back(0);
            Due.is("so again", x.ruled(0), 1);
            Due.is("one note", x.count(10), 1);
        }
    }
}
