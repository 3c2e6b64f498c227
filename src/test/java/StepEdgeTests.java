/** The edges of what rules say and of steps: a test of its own for each sentence that names one. */
public final class StepEdgeTests {
    public static void main(String[] args) {
        wordsOfAWalker();
        wordFrom();
        wordHome();
        wordLures();
        wordMine();
        wordOthers();
        facts();
        testsAndParts();
        towardsNought();
        byNought();
        roundInSixtyFourBits();
        wouldHave();
        allAtOnce();
        ownCornerAndJoined();
        firstClause();
        greatestAboveNought();
        ofSeveralTheLeast();
        withoutARule();
        stayAtHome();
        byNumbers();
        leastLure();
        chargeAtMost();
        waryAtMost();
        stepAtMostByHand();
        Due.leave();
    }

    private static LureTown ruled(String town, String rule) {
        LureTown x = Due.townOf(town);
        Due.is("rule '" + rule + "'", Due.rule(x, rule), 0);
        x.force(0);
        return x;
    }

    /** Where walker 0 is a step later. */
    private static void goes(String town, String rule, int corner) {
        Due.is("'" + rule + "' in '" + town + "' goes to", ruled(town, rule).ahead(0, 1, 0), corner);
    }

    private static void holds(String test) {
        goes("town 2;way 0 1;walker 0 0 0 0", "go 1 if corner = 1 and " + test, 1);
    }

    private static void fails(String test) {
        goes("town 2;way 0 1;walker 0 0 0 0", "go 1 if corner = 1 and [" + test + "]", 0);
    }

    // ---- words ----

    private static void wordsOfAWalker() {
        Due.words("WORDS (small letters, as far as these go on) of a WALKER and a CORNER they may go to: walker, corner, from");
        LureTown x = ruled("town 8;way 6 7;lure 6 3 9 20;walker 1 1 0 0;walker 6 5 3 8;walker 2 1 7 9", "go 1 if walker = 1 and heart = 3 and wary = 8 and charge = 0 and step = 0 and corner = 6;go 1 if walker = 1 and heart = 3 and wary = 9 and charge = 20 and step = 1 and corner = 7");
        Due.is("had where they stay", x.step(), 2);
        x.step();
        Due.is("then at 7", x.walker(1, 0), 7);
        Due.is("the others stay", x.walker(0, 0) * 10 + x.walker(2, 0), 12);
        Due.rule(x, "go 1 if walker = 2 and heart = 7 and wary = 9 and corner = 2 and from = 2;go 1 if walker = 1 and corner = 6 and step = 2");
        x.force(1);
        Due.is("back to 6", x.ahead(1, 1, 0), 6);
        Due.is("the last stays", x.ahead(2, 1, 0), 2);
    }

    private static void wordFrom() {
        Due.words("from (the CORNER they are at)");
        goes("town 8;way 7 0;walker 7 0 0 0", "go 1 if from = 7 and corner = 0", 0);
        goes("town 8;way 7 0;walker 0 0 0 0", "go 1 if from = 0 and corner = 7", 7);
    }

    private static void wordHome() {
        Due.words("home (how many WAYS it is from that CORNER HOME, 99 if there is none)");
        String row = "town 8;way 0 1;way 1 2;way 2 3;way 3 4;way 4 5;way 5 6;way 6 7;";
        goes(row + "walker 6 7 0 0", "go 1 if home = 0", 7);
        goes(row + "walker 1 7 0 0", "go 1 if home = 7", 0);
        goes(row + "walker 1 7 0 0", "go 1 if home = 6 and corner = 1 or home = 5 and corner = 2", 1);
        goes("town 3;way 0 1;walker 0 2 0 0", "go 1 if home = 99 and corner = 1", 1);
        goes("town 3;way 0 1;walker 0 2 0 0", "go 1 if home < 99 or home > 99;go 2 if corner = 1", 1);
        goes("town 3;way 0 1;walker 0 0 0 0", "go 1 if home = 99", 0);
    }

    private static void wordLures() {
        Due.words("lures (how many LURES are SET at that CORNER)");
        String six = ";lure 1 7 1 1".repeat(6);
        goes("town 2;way 0 1;walker 0 0 0 0" + six, "go 1 if lures = 6 and corner = 1", 1);
        goes("town 2;way 0 1;walker 1 1 0 0" + six, "go 1 if lures = 0 and corner = 0", 0);
        // one that is sprung is none: there are two, then one
        LureTown x = ruled("town 2;way 0 1;walker 0 0 0 0;lure 1 0 9 1;lure 1 1 9 1", "go 2 if lures = 2;go 1 if lures = 0");
        Due.is("there", x.ahead(0, 1, 0), 1);
        Due.is("and away", x.ahead(0, 2, 0), 0);
    }

    private static void wordMine() {
        Due.words("mine (how many of these would have them)");
        String six = ";lure 1 4 3 1".repeat(6);
        goes("town 2;way 0 1;walker 0 0 4 2" + six, "go 1 if mine = 6", 1);
        goes("town 2;way 0 1;walker 0 0 4 3" + six, "go 1 if mine = 0 and corner = 1", 1);
        goes("town 2;way 0 1;walker 0 0 5 2" + six, "go 1 if mine = 0 and corner = 1", 1);
        goes("town 2;way 0 1;walker 0 0 4 2;lure 1 4 3 1;lure 1 4 2 1;lure 0 4 3 1;lure 1 5 9 1", "go 1 if mine = 1 and lures = 3", 1);
        // one that is sprung would have nobody: there are two, then one
        LureTown x = ruled("town 2;way 0 1;walker 0 0 0 0;lure 1 0 9 1;lure 1 0 9 1", "go 2 if mine = 2;go 1 if mine = 0");
        Due.is("there", x.ahead(0, 1, 0), 1);
        Due.is("and away", x.ahead(0, 2, 0), 0);
    }

    private static void wordOthers() {
        Due.words("others (how many other WALKERS are at that CORNER)");
        String four = ";walker 1 1 0 0".repeat(4);
        goes("town 2;way 0 1;walker 0 0 0 0" + four, "go 1 if others = 4", 1);
        goes("town 2;way 0 1;walker 0 0 0 0" + four, "go 1 if others = 0 and corner = 0;go 2 if others = 0", 0);
        // they themselves are no other
        goes("town 2;way 0 1;walker 1 1 0 0" + four, "go 1 if others = 4 and corner = 1;go 2 if corner = 0 and others > 0", 1);
        goes("town 2;way 0 1;walker 1 1 0 0" + four, "go 1 if others = 5;go 1 if others = 0", 0);
    }

    // ---- tests ----

    private static void facts() {
        Due.words("FACT: not FACT | [ TEST ] (these brackets are signs) | SUM SIGN SUM, SIGN one of < <= = >= >.");
        for (int a = 0; a <= 2; a++) {
            sign(a + "<1", a < 1);
            sign(a + "<=1", a <= 1);
            sign(a + "=1", a == 1);
            sign(a + ">=1", a >= 1);
            sign(a + ">1", a > 1);
        }
        goes("town 3;way 0 1;way 0 2;walker 0 0 0 0", "go 1 if not corner = 0", 1);
        goes("town 3;way 0 1;way 0 2;walker 0 0 0 0", "go 1 if not corner = 0 and not corner = 1", 2);
        goes("town 3;way 0 1;way 0 2;walker 0 0 0 0", "go 1 if not [corner = 0 or corner = 1]", 2);
        goes("town 2;way 0 1;walker 0 0 0 0", "go 1 if [not not corner = 1]", 1);
        holds("not 1=2");
        fails("not 1=1");
        holds("not not 1=1");
        fails("not not not 1=1");
        holds("[1=1]");
        fails("[1=2]");
        holds("not [not 1=1 or not 2=2]");
        fails("not [1=1 and 2=2]");
    }

    private static void sign(String fact, boolean so) {
        if (so) {
            holds(fact);
            fails("not " + fact);
        } else {
            fails(fact);
            holds("not " + fact);
        }
    }

    private static void testsAndParts() {
        Due.words("TEST: PART { or PART }. PART: FACT { and FACT }.");
        fails("1=2 and 1=2 or 1=2");
        fails("1=2 or 1=1 and 1=2");
        holds("[1=1 or 1=1 and 1=2]");
        holds("[1=2 and 1=2 or 1=1]");
        fails("[1=1 or 1=1] and 1=2");
        holds("[1=2 or 1=2 or 1=1]");
        fails("1=1 and 1=1 and 1=2");
        holds("[[1=2 or 1=1] and [1=1 or 1=2]]");
        // not is of the one fact behind it
        fails("not 1=1 and 1=2");
        holds("[not 1=1 or 1=1]");
        fails("not [1=1 or 1=1]");
        holds("[not 1=2 and 1=1]");
        // a sum binds more than a sign
        holds("1+1*2=6/2");
        holds("2*3%4+1-1<=10/3-1");
    }

    // ---- sums ----

    private static void towardsNought() {
        Due.words("/ is towards 0, % its rest");
        holds("7 / 2 = 3 and 7 % 2 = 1");
        holds("1 / 2 = 0 and 1 % 2 = 1");
        holds("0 / 5 = 0 and 0 % 5 = 0");
        holds("6 / 3 = 2 and 6 % 3 = 0");
        // 65535 to the fourth goes round to an odd number below 0
        String odd = "65535*65535*65535*65535";
        holds(odd + "<0");
        holds(odd + "/2*2-" + odd + "=1");
        holds(odd + "%2=0-1");
        holds(odd + "%99999<0");
        holds(odd + "/99999*99999+" + odd + "%99999=" + odd);
        // of the two sides of a sum, too
        holds("0 - 7 / 2 = 0 - 3");
    }

    private static void byNought() {
        Due.words("both 0 by 0");
        holds("7 / 0 = 0");
        holds("7 % 0 = 0");
        holds("0 / 0 = 0");
        holds("0 % 0 = 0");
        holds("99999 / walker = 0 and 99999 % from = 0");
        holds("5 + 7 / 0 * 9 - 3 % 0 = 5");
        goes("town 2;way 0 1;walker 0 0 0 0", "go 7 / corner", 1);
        goes("town 2;way 0 1;walker 0 0 0 0", "go 1 - 7 / corner", 0);
        goes("town 3;way 0 1;way 0 2;walker 0 0 0 0", "go 3 % corner", 2);
    }

    private static void roundInSixtyFourBits() {
        Due.words("all goes round in 64 bits.");
        String least = "65536*65536*65536*32768";
        holds("65536*65536>99999*20000");
        holds("65536*65536*65536*65536=0");
        holds("65536*65536*65536*65536*7+3=3");
        holds(least + "<0");
        holds(least + "-1>0");
        holds(least + "-1+1<0");
        holds(least + "+" + least + "=0");
        holds("0-" + least + "=" + least);
        holds(least + "*2=0");
        holds(least + "-1*2=" + least + "-2");
        // the greatest there is, against the one that goes round below 0
        goes("town 3;way 0 1;way 0 2;walker 0 0 0 0", "go " + least + "-1 if corner = 2;go 99999*99999*99999", 2);
        goes("town 3;way 0 1;way 0 2;walker 0 0 0 0", "go " + least + " if corner = 2;go 1 if corner = 1", 1);
        goes("town 3;way 0 1;way 0 2;walker 0 0 0 0", "go 65536*65536*corner", 2);
    }

    // ---- steps ----

    private static void wouldHave() {
        Due.words("A LURE that is SET would have a WALKER, if its KIND is their HEART and its GUILE more than they are WARY.");
        for (int guile = 1; guile <= 9; guile++) {
            for (int wary = 0; wary <= 9; wary++) {
                LureTown x = Due.townOf("town 2;lure 0 3 " + guile + " 5;walker 0 0 3 " + wary);
                Due.is("guile " + guile + ", wary " + wary, x.step(), guile > wary ? 1 : 0);
                Due.is("set then", x.lure(0, 4), guile > wary ? 0 : 1);
            }
        }
        for (int kind = 0; kind <= 7; kind++) {
            for (int heart = 0; heart <= 7; heart++) {
                LureTown x = Due.townOf("town 2;lure 0 " + kind + " 9 5;walker 0 0 " + heart + " 0");
                Due.is("kind " + kind + ", heart " + heart, x.step(), kind == heart ? 1 : 0);
            }
        }
        LureTown x = Due.townOf("town 2;lure 0 0 9 5;walker 0 0 0 0");
        Due.is("set", x.step(), 1);
        Due.is("sprung", x.step(), 0);
        Due.is("charge of one", x.count(9), 5);
        Due.is("elsewhere", Due.townOf("town 2;lure 1 0 9 5;walker 0 0 0 0").step(), 0);
    }

    private static void allAtOnce() {
        Due.words("(1) WALKERS all at once, by how all is as the STEP begins");
        LureTown x = ruled("town 2;way 0 1;walker 0 0 0 0;walker 1 1 0 0", "go 1 if others = 1");
        x.step();
        Due.is("they change corners", x.walker(0, 0) * 10 + x.walker(1, 0), 10);
        // the lure that walker 0 springs in this step lies there still for walker 1
        x = ruled("town 2;way 0 1;walker 0 0 0 0;walker 0 0 0 0;lure 1 0 9 1", "go lures");
        Due.is("the first is had", x.step(), 1);
        Due.is("both went", x.walker(0, 0) * 10 + x.walker(1, 0), 11);
    }

    private static void ownCornerAndJoined() {
        Due.words("each goes to that CORNER, of their own and those a WAY joins to it");
        goes("town 8;way 3 1;way 3 5;way 5 7;walker 3 0 0 0", "go corner + 1", 5);
        goes("town 8;way 3 1;way 3 5;way 5 7;walker 3 0 0 0", "go 9 - corner", 1);
        goes("town 8;way 3 1;way 3 5;way 5 7;walker 3 0 0 0", "go 1 if corner = 3", 3);
        goes("town 8;way 3 1;way 3 5;way 5 7;walker 3 0 0 0", "go 1 if corner = 7 or corner = 0", 3);
        goes("town 8;way 1 2;walker 7 0 0 0", "go 8 - corner", 7);
    }

    private static void firstClause() {
        Due.words("the SUM of the RULE IN FORCE's first CLAUSE without a TEST, or whose TEST holds (0 without)");
        String town = "town 3;way 0 1;way 0 2;walker 0 0 0 0";
        goes(town, "go 9 if corner = 3;go 1 if corner = 2;go 5 if corner = 2;go 1 if corner = 1", 1);
        goes(town, "go 5 if corner = 1;go 2 if corner = 1;go 3", 1);
        goes(town, "go corner;go 9 - corner", 2);
        goes(town, "go 0 if corner = 2;go corner", 1);
        // none holds: 0, and 0 is not above 0
        goes(town, "go 9 if 1 = 2", 0);
        goes(town, "go 9 if corner > 2;go 9 if step > 0", 0);
    }

    private static void greatestAboveNought() {
        Due.words("is greatest, if it is above 0");
        String town = "town 3;way 0 1;way 1 2;walker 1 0 0 0";
        goes(town, "go 0", 1);
        goes(town, "go 1", 0);
        goes(town, "go 0 - 1", 1);
        goes(town, "go corner - 2", 1);
        goes(town, "go corner - 1", 2);
        goes(town, "go 0 - corner", 1);
        goes(town, "go 1 - corner", 0);
        goes(town, "go 3 if corner = 0;go 2 if corner = 1;go 1", 0);
        goes(town, "go 2 if corner = 0;go 3 if corner = 1;go 1", 1);
    }

    private static void ofSeveralTheLeast() {
        Due.words("of several the least (none: they stay)");
        goes("town 4;way 2 1;way 2 3;walker 2 0 0 0", "go 1", 1);
        goes("town 4;way 2 1;way 2 3;walker 2 0 0 0", "go 5 if corner > 1", 2);
        goes("town 4;way 0 1;way 0 3;walker 0 0 0 0", "go 5 if corner > 0;go 4", 1);
        goes("town 4;way 2 1;way 2 3;walker 2 0 0 0", "go 0", 2);
    }

    private static void withoutARule() {
        Due.words("without a RULE to the least CORNER a WAY joins from which it is one WAY less HOME");
        LureTown x = Due.townOf("town 8;way 7 6;way 7 5;way 7 4;way 6 0;way 5 0;way 4 3;way 3 0;walker 7 0 0 0");
        int[] corners = {5, 0, 0};
        for (int corner : corners) {
            x.step();
            Due.is("corner", x.walker(0, 0), corner);
        }
        // a way between two that are as far is none of these
        x = Due.townOf("town 4;way 1 0;way 1 3;way 0 3;way 3 2;walker 1 2 0 0");
        Due.is("not to 0", x.ahead(0, 1, 0), 3);
        Due.is("then home", x.ahead(0, 2, 0), 2);
        Due.is("the last way", Due.townOf("town 2;way 0 1;walker 1 0 0 0").ahead(0, 1, 0), 0);
    }

    private static void stayAtHome() {
        Due.words("at HOME, or without a row of WAYS to it, they stay.");
        LureTown x = Due.townOf("town 5;way 0 1;way 2 3;walker 0 0 0 0;walker 0 3 0 0;walker 4 0 0 0;walker 3 4 0 0");
        x.step();
        int[] corners = {0, 0, 4, 3};
        for (int i = 0; i < 4; i++) {
            Due.is("corner of " + i, x.walker(i, 0), corners[i]);
        }
        // who stays can be had
        Due.is("had at home", Due.townOf("town 2;way 0 1;lure 0 0 9 1;walker 0 0 0 0").step(), 1);
        Due.is("had without a row", Due.townOf("town 2;lure 0 0 9 1;walker 0 1 0 0").step(), 1);
    }

    private static void byNumbers() {
        Due.words("(2) WALKERS by numbers");
        LureTown x = Due.townOf("town 2;way 0 1;lure 1 0 9 7;walker 1 1 0 9;walker 1 1 0 3;walker 0 1 0 2");
        Due.is("the least of those it would have", x.step(), 2);
        Due.is("who has its charge", x.walker(1, 4), 7);
        Due.is("nobody else", x.count(9), 7);
    }

    private static void leastLure() {
        Due.words("the least such HAS them: it is SPRUNG, not SET any more");
        LureTown x = Due.townOf("town 2;lure 1 0 9 1;lure 0 1 9 2;lure 0 0 3 3;lure 0 0 4 4;lure 0 0 9 5;walker 0 0 0 3");
        Due.is("by one alone", x.step(), 1);
        Due.is("by the fourth", x.count(7), 1 + 2 + 4 + 16);
        Due.is("its charge", x.walker(0, 4), 4);
        Due.is("where it lay", x.lure(3, 0), 0);
        Due.is("sprung", x.lure(3, 4), 0);
        Due.is("then by the fifth", x.step(), 1);
        Due.is("its charge", x.walker(0, 4), 9);
        Due.is("no more", x.step(), 0);
        // of one lure the first walker only, of two each has one
        x = Due.townOf("town 2;lure 0 0 9 3;lure 0 0 9 5;walker 0 0 0 0;walker 0 0 0 0;walker 0 0 0 0");
        Due.is("two of three", x.step(), 3);
        Due.is("charges", x.walker(0, 4) * 100 + x.walker(1, 4) * 10 + x.walker(2, 4), 350);
    }

    private static void chargeAtMost() {
        Due.words("they have its CHARGE more (999 at most)");
        LureTown x = Due.townOf("town 2;lure 0 0 9 20;lure 1 0 9 18;lure 1 0 9 1;walker 0 0 0 0;walker 1 1 0 9");
        for (int i = 1; i <= 49; i++) {
            x.step();
            x.set(0, 0);
            x.calm(0, 0);
        }
        Due.is("49 times 20", x.walker(0, 4), 980);
        Due.is("1000 are 999", x.ahead(0, 1, 1), 999);
        Due.is("of two lures", x.ahead(0, 2, 1), 999);
        x.move(0, 1);
        x.move(1, 0);
        Due.is("998", x.ahead(0, 1, 1), 998);
        x.step();
        Due.is("998 by hand", x.walker(0, 4), 998);
        x.move(2, 0);
        x.step();
        Due.is("999", x.walker(0, 4), 999);
        x.set(2, 0);
        Due.is("had", x.step(), 1);
        Due.is("999 still", x.walker(0, 4), 999);
        Due.is("of all", x.count(9), 999);
        Due.is("nobody else", x.walker(1, 4), 0);
    }

    private static void waryAtMost() {
        Due.words("and are 1 more WARY (9 at most)");
        LureTown x = Due.townOf("town 2" + ";lure 0 0 9 1".repeat(6) + ";walker 0 0 0 5");
        for (int wary = 6; wary <= 9; wary++) {
            Due.is("had", x.step(), 1);
            Due.is("wary", x.walker(0, 3), wary);
        }
        Due.is("no guile is more than 9", x.step(), 0);
        Due.is("wary", x.walker(0, 3), 9);
        Due.is("two lures are left", x.count(7), 32 + 16);
    }

    /** An object can't come to step 999 within 512 calls; the class keeps the bound all the same. */
    private static void stepAtMostByHand() {
        Due.words("STEP is 1 more (999 at most by hand; STEPS that are asked go on beyond).");
        LureTown x = ruled("town 2;way 0 1;lure 1 0 9 4;walker 0 0 0 0", "go 1 if step > 998 + 99 and corner = 1");
        for (int i = 0; i < 998; i++) {
            x.step();
        }
        Due.is("STEP", x.count(6), 998);
        Due.is("the last", x.step(), 0);
        Due.is("STEP", x.count(6), 999);
        Due.is("no more", x.step(), -1);
        Due.is("STEP", x.count(6), 999);
        Due.is("99 steps on", x.ahead(0, 99, 0), 0);
        Due.is("100 steps on", x.ahead(0, 100, 0), 1);
        Due.is("had beyond", x.had(0, 0), 1098);
        Due.is("first beyond", x.first(0), 1098);
        Due.is("ring beyond", x.ring(0), 999);
        Due.is("nights beyond", x.nights(2, 60, 0, 0), 0);
        Due.is("undone", x.undo(), 19);
        Due.is("STEP", x.count(6), 998);
    }
}
