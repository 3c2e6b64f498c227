/** The edges of the texts of towns and rules: a test of its own for each sentence of the Terms that names one. */
public final class TextEdgeTests {
    public static void main(String[] args) {
        townOfFourHundredBytes();
        fortyClauses();
        cornersTwoToEight();
        townOnceAndFirst();
        wayOfTwoCorners();
        numbersOfLures();
        numbersOfWalkers();
        sixLuresFiveWalkers();
        begin();
        ruleOfFourHundredBytes();
        sixRules();
        twelveClauses();
        goAndIf();
        facts();
        sumsAndTerms();
        digitsGoOn();
        lettersGoOn();
        blanks();
        tenDeep();
        sixtyParts();
        Due.leave();
    }

    private static String blanksUpTo(String text, int size) {
        return text + " ".repeat(size - text.length());
    }

    private static void town(String text, int walkers) {
        Due.is("town of '" + text + "'", Due.town(new LureTown(), text), walkers);
    }

    private static void rule(String text) {
        LureTown x = new LureTown();
        Due.is("rule of '" + text + "'", Due.rule(x, text), 0);
        Due.is("the tape behind '" + text + "'", x.count(13), 0);
    }

    // ---- towns ----

    private static void townOfFourHundredBytes() {
        Due.words("A TOWN is a text of at most 400 bytes");
        town(blanksUpTo("town 2", 400), 0);
        town(blanksUpTo("town 2", 386) + ";walker0 1 0 0", 1);
        Due.townFault(blanksUpTo("town 2", 399) + "x", 399, 0);
        Due.townFault(blanksUpTo("town 2", 399) + ";", 400, 0);
        Due.townFault(" ".repeat(400), 400, 0);
        Due.townFault("", 0, 0);
    }

    private static void fortyClauses() {
        Due.words("CLAUSE { ; CLAUSE }, 40 at most");
        town("town 2", 0);
        String forty = "town 2" + ";way 0 1".repeat(38) + ";walker 1 1 1 1";
        town(forty, 1);
        Due.townFault(forty + ";way 0 1", forty.length() + 1, 4);
        Due.townFault(forty + "; way 0 1", forty.length() + 2, 4);
        Due.townFault(forty + ";lure 0 0 1 1", forty.length() + 1, 4);
        Due.townFault("town 2;", 7, 0);
        Due.townFault("town 2;;way 0 1", 7, 0);
        Due.townFault(";town 2", 0, 0);
    }

    private static void cornersTwoToEight() {
        Due.words("town NUMBER (CORNERS 2 to 8;");
        for (int n = 2; n <= 8; n++) {
            LureTown x = Due.townOf("town " + n);
            Due.is("corners", x.count(0), n);
            Due.is("the last one", x.ways(n - 1), 0);
            Due.is("no more", x.ways(n), -1);
        }
        for (int n : new int[] {0, 1, 9, 10, 18, 99999}) {
            Due.townFault("town " + n, 5, 1);
        }
    }

    private static void townOnceAndFirst() {
        Due.words("once, the first CLAUSE)");
        Due.townFault("town 2;town 2", 7, 4);
        Due.townFault("town 2;town 9", 7, 4);
        Due.townFault("town 2;way 0 1; town 3", 16, 4);
        Due.townFault("way 0 1;town 2", 0, 4);
        Due.townFault("lure 0 0 1 1;town 2", 0, 4);
        Due.townFault("  walker 0 0 0 0;town 2", 2, 4);
    }

    private static void wayOfTwoCorners() {
        Due.words("way NUMBER NUMBER (two CORNERS; told already, either way round: nothing new)");
        LureTown x = Due.townOf("town 3;way 2 1");
        Due.is("one way", x.count(1), 1);
        Due.is("from 1", x.ways(1), 4);
        Due.is("from 2", x.ways(2), 2);
        Due.is("from 0", x.ways(0), 0);
        x = Due.townOf("town 3;way 2 1;way 2 1;way 1 2");
        Due.is("one way still", x.count(1), 1);
        Due.is("from 1 still", x.ways(1), 4);
        Due.townFault("town 3;way 3 0", 11, 1);
        Due.townFault("town 3;way 0 3", 13, 1);
        Due.townFault("town 3;way 1 1", 13, 1);
        Due.townFault("town 3;way 3 3", 11, 1);
        Due.townFault("town 8;way 0 8", 13, 1);
        allWays();
    }

    private static void allWays() {
        StringBuilder text = new StringBuilder("town 8");
        for (int a = 0; a < 8; a++) {
            for (int b = 0; b < a; b++) {
                text.append(";way ").append(a).append(' ').append(b);
            }
        }
        LureTown x = Due.townOf(text.toString());
        Due.is("all ways", x.count(1), 28);
        for (int c = 0; c < 8; c++) {
            Due.is("from " + c, x.ways(c), 255 - (1 << c));
        }
    }

    /** Least and most can be told, what is beyond them is a fault at that number. */
    private static void number(String ahead, int least, int most, String behind) {
        for (int n : new int[] {least, most}) {
            Due.is(ahead + n + behind, Due.town(new LureTown(), ahead + n + behind) >= 0 ? 1 : 0, 1);
        }
        for (int n : new int[] {least - 1, most + 1}) {
            if (n >= 0) {
                Due.townFault(ahead + n + behind, ahead.length(), 1);
            }
        }
        Due.townFault(ahead + "99999" + behind, ahead.length(), 1);
        Due.townFault(ahead + "00000" + least + behind, ahead.length(), 1);
        // a sign ahead of a number is no part of it
        Due.townFault(ahead + "-" + least + behind, ahead.length(), 0);
        Due.townFault(ahead.trim(), ahead.trim().length(), 0);
    }

    private static void numbersOfLures() {
        Due.words("lure NUMBER NUMBER NUMBER NUMBER (a CORNER; KIND 0 to 7; GUILE 1 to 9; CHARGE 1 to 20)");
        number("town 3;lure ", 0, 2, " 7 9 20");
        number("town 3;lure 0 ", 0, 7, " 9 20");
        number("town 3;lure 0 0 ", 1, 9, " 20");
        number("town 3;lure 0 0 1 ", 1, 20, "");
        Due.townFault("town 3;lure 0 0 1 1 1", 20, 0);
        LureTown x = Due.townOf("town 3;lure 2 7 9 20");
        int[] most = {2, 7, 9, 20, 1};
        for (int what = 0; what < 5; what++) {
            Due.is("lure(0, " + what + ")", x.lure(0, what), most[what]);
        }
    }

    private static void numbersOfWalkers() {
        Due.words("walker NUMBER NUMBER NUMBER NUMBER (a CORNER; HOME, a CORNER; HEART 0 to 7; WARY 0 to 9)");
        number("town 3;walker ", 0, 2, " 2 7 9");
        number("town 3;walker 0 ", 0, 2, " 7 9");
        number("town 3;walker 0 0 ", 0, 7, " 9");
        number("town 3;walker 0 0 0 ", 0, 9, "");
        Due.townFault("town 3;walker 0 0 0 0 0", 22, 0);
        LureTown x = Due.townOf("town 3;walker 2 2 7 9");
        int[] most = {2, 2, 7, 9, 0};
        for (int what = 0; what < 5; what++) {
            Due.is("walker(0, " + what + ")", x.walker(0, what), most[what]);
        }
    }

    private static void sixLuresFiveWalkers() {
        Due.words("LURES 0 to 5, WALKERS 0 to 4, in the order told, several at one CORNER as one likes.");
        LureTown x = Due.townOf("town 2");
        Due.is("no lures", x.count(2) * 100 + x.lure(0, 0), -1);
        Due.is("no walkers", x.count(3) * 100 + x.walker(0, 0), -1);
        StringBuilder text = new StringBuilder("town 2");
        for (int i = 0; i < 6; i++) {
            text.append(";lure 1 0 1 ").append(i + 1);
            text.append(i < 5 ? ";walker 1 0 0 " + (9 - i) : "");
        }
        Due.is("five walkers", Due.town(x, text.toString()), 5);
        Due.is("six lures", x.count(2), 6);
        for (int i = 0; i < 6; i++) {
            Due.is("corner of lure " + i, x.lure(i, 0), 1);
            Due.is("charge of lure " + i, x.lure(i, 3), i + 1);
            Due.is("wary of walker " + i, x.walker(i, 3), i < 5 ? 9 - i : -1);
        }
        Due.is("lure 6", x.lure(6, 0), -1);
        Due.townFault(text + ";lure 0 0 1 1", text.length() + 1, 4);
        Due.townFault(text + ";walker 0 0 0 0", text.length() + 1, 4);
        Due.townFault(text + ";lure", text.length() + 1, 4);
        Due.townFault(text + "; walker", text.length() + 2, 4);
        town(text + ";way 0 1", 5);
    }

    private static void begin() {
        Due.words("It is STEP 0; all LURES are SET, nobody has any CHARGE.");
        String text = "town 2;way 0 1;lure 1 0 9 20;lure 1 0 9 1;walker 0 1 0 0;walker 0 1 0 0";
        LureTown x = Due.townOf(text);
        for (int i = 0; i < 2; i++) {
            Due.is("STEP", x.count(6), 0);
            Due.is("set", x.count(7), 3);
            Due.is("charges", x.count(9), 0);
            Due.is("charge", x.walker(1, 4), 0);
            Due.is("wary", x.walker(0, 3), 0);
            // both are had, and then the same text is told once more
            Due.is("step", x.step(), 3);
            Due.town(x, text);
        }
    }

    // ---- rules ----

    private static void ruleOfFourHundredBytes() {
        Due.words("RULES 0 to 5: texts likewise");
        rule(blanksUpTo("go 1", 400));
        rule(blanksUpTo("go", 395) + "13579");
        Due.ruleFault(blanksUpTo("go 1", 399) + "x", 399, 0);
        Due.ruleFault(blanksUpTo("go 1", 399) + ";", 400, 0);
        Due.ruleFault(" ".repeat(400), 400, 0);
        Due.ruleFault("", 0, 0);
    }

    private static void sixRules() {
        Due.words("RULES 0 to 5");
        LureTown x = new LureTown();
        for (int i = 0; i < 6; i++) {
            Due.is("rule " + i, Due.rule(x, "go " + i), i);
        }
        Due.is("one more", Due.rule(x, "go 6"), -1);
        Due.is("rules", x.count(4), 6);
        Due.is("rule 5 is one", x.force(5), -1);
        Due.is("rule 6 is none", x.force(6), -2);
    }

    private static void twelveClauses() {
        Due.words("12 CLAUSES at most");
        String twelve = "go 0 if 1=2" + ";go 0 if 1=2".repeat(10) + ";go corner";
        rule(twelve);
        Due.ruleFault(twelve + ";go 1", twelve.length() + 1, 4);
        Due.ruleFault(twelve + ";  go x", twelve.length() + 3, 4);
        // the twelfth is asked as the first is
        LureTown x = Due.townOf("town 2;way 0 1;walker 0 0 0 0");
        Due.rule(x, twelve);
        x.force(0);
        Due.is("by the twelfth", x.ahead(0, 1, 0), 1);
    }

    private static void goAndIf() {
        Due.words("go SUM [ if TEST ]");
        rule("go 1");
        rule("go 1 if 1=1");
        Due.ruleFault("go", 2, 0);
        Due.ruleFault("go ;", 3, 0);
        Due.ruleFault("if 1=1", 0, 0);
        Due.ruleFault("go if 1=1", 3, 0);
        Due.ruleFault("go 1 if", 7, 0);
        Due.ruleFault("go 1 if 1=1 if 1=1", 12, 0);
        Due.ruleFault("go 1 [if 1=1]", 5, 0);
        Due.ruleFault("go 1=1", 4, 0);
    }

    private static void facts() {
        Due.words("FACT: not FACT | [ TEST ] (these brackets are signs) | SUM SIGN SUM, SIGN one of < <= = >= >.");
        for (String sign : new String[] {"<", "<=", "=", ">=", ">"}) {
            rule("go 1 if 1" + sign + "1");
            Due.ruleFault("go 1 if 1" + sign, 9 + sign.length(), 0);
            Due.ruleFault("go 1 if " + sign + "1", 8, 0);
        }
        for (String sign : new String[] {"!=", "==", "=<", "=>", "<>", "><", "<<", ">>"}) {
            Due.ruleFault("go 1 if 1" + sign + "1", sign.charAt(0) == '!' ? 9 : 10, 0);
        }
        Due.ruleFault("go 1 if <=1", 8, 0);
        Due.ruleFault("go 1 if 1<==1", 11, 0);
        Due.ruleFault("go 1 if []", 9, 0);
        Due.ruleFault("go 1 if [1=1", 12, 0);
        Due.ruleFault("go 1 if 1=1]", 11, 0);
        Due.ruleFault("go 1 if [1=1;go 1]", 12, 0);
        Due.ruleFault("go 1 if [1=1][1=1]", 13, 0);
        Due.ruleFault("go 1 if [1]=1", 10, 0);
        Due.ruleFault("go 1 if [1=1]=1", 13, 0);
        Due.ruleFault("go 1 if [1=1]+1=1", 13, 0);
        Due.ruleFault("go 1 if 1=1 or [1=1]*1=1", 20, 0);
        Due.ruleFault("go 1 if 1=[1=1]", 10, 0);
        Due.ruleFault("go 1 if 1+[1=1]=1", 10, 0);
        Due.ruleFault("go 1 if not", 11, 0);
        Due.ruleFault("go 1 if 1 not =1", 10, 0);
        Due.ruleFault("go 1 if and 1=1", 8, 0);
        Due.ruleFault("go 1 if 1=1 and", 15, 0);
        Due.ruleFault("go 1 if 1=1 or", 14, 0);
        Due.ruleFault("go 1 if 1=1 and or 1=1", 16, 0);
        Due.ruleFault("go 1 if 1=1=1", 11, 0);
    }

    private static void sumsAndTerms() {
        Due.words("SUM: TERM { (+ or -) TERM }. TERM: VALUE { (* or / or %) VALUE }.");
        for (String sign : new String[] {"+", "-", "*", "/", "%"}) {
            rule("go 1" + sign + "1");
            Due.ruleFault("go 1" + sign, 5, 0);
            Due.ruleFault("go " + sign + "1", 3, 0);
            Due.ruleFault("go 1" + sign + sign + "1", 5, 0);
            Due.ruleFault("go 1" + sign + ";go 1", 5, 0);
        }
        Due.ruleFault("go [1]", 3, 0);
        Due.ruleFault("go (1)", 3, 0);
    }

    private static void digitsGoOn() {
        Due.words("NUMBER (1 to 5 digits, as far as digits go on)");
        rule("go 0");
        rule("go 99999");
        rule("go 00000");
        Due.ruleFault("go 100000", 3, 1);
        Due.ruleFault("go 000000", 3, 1);
        Due.ruleFault("go 12345678901234567890", 3, 1);
        Due.ruleFault("go 1+100000", 5, 1);
        Due.ruleFault("go 1 if 1=100000", 10, 1);
        Due.ruleFault("go 12345 6", 9, 0);
        town("town 00002", 0);
        Due.townFault("town 000002", 5, 1);
        Due.townFault("town 20", 5, 1);
        Due.townFault("town 4294967298", 5, 1);
        Due.is("99999 is 99999", goesBy("go 1 if corner = 1 and 99999 = 33333 * 3") ? 1 : 0, 1);
        Due.is("00007 is 7", goesBy("go 1 if corner = 1 and 00007 = 7") ? 1 : 0, 1);
    }

    private static boolean goesBy(String rule) {
        LureTown x = Due.townOf("town 2;way 0 1;walker 0 0 0 0");
        Due.rule(x, rule);
        x.force(0);
        return x.ahead(0, 1, 0) == 1;
    }

    private static void lettersGoOn() {
        Due.words("WORDS (small letters, as far as these go on)");
        for (String word : new String[] {"walker", "corner", "from", "home", "heart", "wary", "charge", "lures", "mine", "others", "step"}) {
            rule("go " + word);
            Due.ruleFault("go " + word + "z", 3, 0);
            Due.ruleFault("go " + word.substring(0, word.length() - 1), 3, 0);
            Due.ruleFault("go " + word.toUpperCase(), 3, 0);
            Due.ruleFault("go " + word + "A", 3 + word.length(), 0);
            Due.ruleFault("go " + word + "1", 3 + word.length(), 0);
            Due.ruleFault("go" + word, 0, 0);
        }
        for (String word : new String[] {"go", "if", "and", "or", "not", "town", "way", "lure", "a", "z"}) {
            Due.ruleFault("go " + word, 3, 0);
        }
        otherLetters();
        rule("go1if1=1and1=1or1=1");
        Due.ruleFault("go 1 if not1=1 andnot 1=1", 15, 0);
        town("town2;walker0 0 0 0", 1);
        for (String word : new String[] {"tow", "towns", "Town", "tOwn", "go"}) {
            Due.townFault(word + " 2", 0, 0);
        }
        for (String word : new String[] {"ways", "wa", "lures", "lur", "walk", "walkers", "step", "LURE"}) {
            Due.townFault("town 2;" + word + " 0 1", 7, 0);
        }
    }

    /** A word with one letter otherwise is another word, and there is none such. */
    private static void otherLetters() {
        for (String word : new String[] {"walker", "corner", "from", "home", "heart", "wary", "charge", "lures", "mine", "others", "step"}) {
            for (int i = 0; i < word.length(); i++) {
                Due.ruleFault("go " + word.substring(0, i) + "q" + word.substring(i + 1), 3, 0);
            }
        }
        for (String word : new String[] {"way", "lure", "walker"}) {
            for (int i = 0; i < word.length(); i++) {
                Due.townFault("town 2;" + word.substring(0, i) + "q" + word.substring(i + 1) + " 0 1", 7, 0);
            }
        }
        for (int i = 0; i < 4; i++) {
            Due.townFault("town".substring(0, i) + "q" + "town".substring(i + 1) + " 2", 0, 0);
        }
        Due.ruleFault("qo 1", 0, 0);
        Due.ruleFault("go 1 qf 1=1", 5, 0);
        Due.ruleFault("go 1 if 1=1 qnd 1=1", 12, 0);
        Due.ruleFault("go 1 if 1=1 qr 1=1", 12, 0);
        Due.ruleFault("go 1 if qot 1=1", 8, 0);
    }

    private static void blanks() {
        Due.words("Blanks (32) stand between as one likes.");
        town("   town   2   ;   way   0   1   ;walker 0  1  2  3   ", 1);
        town("town2;way0 1;walker0 1 2 3;lure0 1 2 3", 1);
        rule("  go  1  +  2  if  not  [  1  <=  2  ]  ;  go  3  ");
        rule("go1+2if not[1<=2];go3");
        Due.ruleFault("go 1 if 1 < = 2", 12, 0);
        Due.ruleFault("go 1 if 1 > = 2", 12, 0);
        Due.ruleFault("g o 1", 0, 0);
        Due.ruleFault("go 1 2", 5, 0);
        Due.townFault("to wn 2", 0, 0);
        Due.townFault("town 2;way 0 1 0", 15, 0);
        for (char c : new char[] {0, 9, 10, 13, 31, 33, 127, 128, 160, 255}) {
            Due.townFault("town 2" + c, 6, 0);
            Due.townFault("town" + c + "2", 4, 0);
            Due.ruleFault(c + "go 1", 0, 0);
            Due.ruleFault("go 1 " + c, 5, 0);
        }
    }

    private static void tenDeep() {
        Due.words("[ and not lie within one another 10 deep at most");
        rule("go 1 if " + "[".repeat(10) + "1=1" + "]".repeat(10));
        rule("go 1 if " + "not ".repeat(10) + "1=1");
        rule("go 1 if " + "[not ".repeat(5) + "1=1" + "]".repeat(5));
        Due.ruleFault("go 1 if " + "[".repeat(11) + "1=1" + "]".repeat(11), 18, 2);
        Due.ruleFault("go 1 if " + "not ".repeat(11) + "1=1", 48, 2);
        Due.ruleFault("go 1 if " + "[not ".repeat(5) + "[1=1" + "]".repeat(6), 33, 2);
        Due.ruleFault("go 1 if " + "[not ".repeat(5) + " not 1=1" + "]".repeat(5), 34, 2);
        // what lies beside one another is not deeper, in one clause and in two
        String ten = "[".repeat(10) + "1=1" + "]".repeat(10);
        String nots = "not ".repeat(10) + "1=1";
        rule("go 1 if " + ten + " and " + ten + " or " + nots + " and " + nots + ";go 1 if " + nots + " or " + ten);
        // a bracket that is closed, and a not whose fact has ended, leave room for one more
        rule("go 1 if " + "[".repeat(9) + "[1=1] and [1=1] or not 1=1 and not 1=1" + "]".repeat(9));
        String nine = "go 1 if " + "[".repeat(9);
        Due.ruleFault(nine + "[1=1] and [1=1 or [1=1", nine.length() + 18, 2);
        Due.ruleFault(nine + "not 1=1 and not not 1=1", nine.length() + 16, 2);
        Due.ruleFault(nine + "not [1=1]", nine.length() + 4, 2);
    }

    private static void sixtyParts() {
        Due.words("at most 60 VALUES (of SUMS) and FACTS made of a SIGN, together.");
        String values = "go 1" + "+1".repeat(59);
        rule(values);
        Due.ruleFault(values + "+1", values.length() + 1, 3);
        Due.ruleFault(values + " * step", values.length() + 3, 3);
        // a value, then three for each fact: 58 in all
        String facts = "go 1 if 1=1" + " or 1=1".repeat(18);
        rule(facts + ";go 1+1");
        Due.ruleFault(facts + ";go 1+1+1", facts.length() + 8, 3);
        Due.ruleFault(facts + " or 1=1", facts.length() + 6, 3);
        Due.ruleFault(facts + ";go 1 if 1 >=1", facts.length() + 11, 3);
        Due.ruleFault(facts + ";go 1+1 if home=1", facts.length() + 11, 3);
        // of several clauses all together
        String twelve = "go 1+1+1+1+1" + ";go 1+1+1+1+1".repeat(11);
        rule(twelve);
        Due.ruleFault(twelve + "+1", twelve.length() + 1, 3);
        // brackets, not, and, or are no parts
        rule("go 1" + "+1".repeat(56) + " if [not [not 1=1]]");
        rule("go 1" + "+1".repeat(53) + " if [not [not 1=1]] and [1=1]");
    }
}
