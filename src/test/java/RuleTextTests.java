/** Promises 5 and 6: rule, the faults of its text, what rules say, and force. */
public final class RuleTextTests {
    public static void main(String[] args) {
        rulesAndForce();
        signs();
        limits();
        tapeBehindFaults();
        anewBehindFaults();
        sums();
        tests();
        words();
        Due.leave();
    }

    private static void rulesAndForce() {
        LureTown x = new LureTown();
        Due.is("force(0) of none", x.force(0), -2);
        Due.is("force(-1)", x.force(-1), -1);
        for (int i = 0; i < 6; i++) {
            Due.is("a fault", Due.rule(x, "go x"), Due.fault(3, 0));
            Due.is("rule " + i, Due.rule(x, "go " + i), i);
            Due.is("the tape is empty", x.count(13), 0);
        }
        Due.tape(x, "go 7");
        Due.is("a seventh", x.rule(), -1);
        Due.is("the tape stays", x.count(13), 4);
        Due.tape(x, "no");
        Due.is("a seventh with a fault", x.rule(), -1);
        Due.is("the tape stays with a fault", x.count(13), 2);
        Due.is("rules", x.count(4), 6);
        Due.is("force(5)", x.force(5), -1);
        Due.is("force(6)", x.force(6), -2);
        Due.is("force(-2)", x.force(-2), -2);
        Due.is("in force", x.count(5), 5);
        Due.is("force(2)", x.force(2), 5);
        Due.is("force(2) again", x.force(2), 2);
        Due.is("force(-1)", x.force(-1), 2);
        Due.is("in force", x.count(5), -1);
    }

    private static void signs() {
        Due.ruleFault("", 0, 0);
        Due.ruleFault("go", 2, 0);
        Due.ruleFault("gos 1", 0, 0);
        Due.ruleFault("town 2", 0, 0);
        Due.ruleFault("go x", 3, 0);
        Due.ruleFault("go if", 3, 0);
        Due.ruleFault("go [1]", 3, 0);
        Due.ruleFault("go 1;", 5, 0);
        Due.ruleFault("go 1 2", 5, 0);
        Due.ruleFault("go 1 go 1", 5, 0);
        Due.ruleFault("go 1 < 2", 5, 0);
        Due.ruleFault("go 1 and 2", 5, 0);
        Due.ruleFault("go 1]", 4, 0);
        Due.ruleFault("go 5 %", 6, 0);
        Due.ruleFault("go 5 % * 2", 7, 0);
        Due.ruleFault("go -1", 3, 0);
        Due.ruleFault("go 1 if", 7, 0);
        Due.ruleFault("go 1 if;", 7, 0);
        Due.ruleFault("go 1 if 1", 9, 0);
        Due.ruleFault("go 1 if 1;go 1", 9, 0);
        Due.ruleFault("go 1 if 1 and 1 = 1", 10, 0);
        Due.ruleFault("go 1 if 1 = ", 12, 0);
        Due.ruleFault("go 1 if 1 = 1 = 1", 14, 0);
        Due.ruleFault("go 1 if 1 = 1 if 1 = 1", 14, 0);
        Due.ruleFault("go 1 if wary = 1]", 16, 0);
        Due.ruleFault("go 1 if [wary = 1", 17, 0);
        Due.ruleFault("go 1 if [wary = 1;go 1", 17, 0);
        Due.ruleFault("go 1 if [wary]", 13, 0);
        Due.ruleFault("go 1 if [1] = 1", 10, 0);
        Due.ruleFault("go 1 if [1 = 1] + 1", 16, 0);
        Due.ruleFault("go 1 if [1 = 1] = 1", 16, 0);
        Due.ruleFault("go 1 if [1 = 1]]", 15, 0);
        Due.ruleFault("go 1 if [1 = 1] not 1 = 1", 16, 0);
        Due.ruleFault("go 1 if []", 9, 0);
        Due.ruleFault("go 1 if not", 11, 0);
        Due.ruleFault("go 1 if not and", 12, 0);
        Due.ruleFault("go 1 if 1 + not 1 = 1", 12, 0);
        Due.ruleFault("go 1 if 1 = not 1", 12, 0);
        Due.ruleFault("go 1 if 1 = [1]", 12, 0);
        Due.ruleFault("go 1 if 1 < = 1", 12, 0);
        Due.ruleFault("go 1 if 1 => 1", 11, 0);
        Due.ruleFault("go 1 if 1 <> 1", 11, 0);
        Due.ruleFault("go 1 if 1 = 1 or", 16, 0);
        Due.ruleFault("go 1 if 1 = 1 and or", 18, 0);
        Due.ruleFault("go lure", 3, 0);
        Due.ruleFault("go Home", 3, 0);
        Due.ruleFault("go homes", 3, 0);
        Due.ruleFault("go homez", 3, 0);
        Due.ruleFault("go 1 if not x = 1", 12, 0);
        Due.ruleFault("go 1\u0000", 4, 0);
        Due.ruleFault("go \u00e9", 3, 0);
        Due.is("close together", Due.rule(new LureTown(), "go1if1<=1and2>=2or[not3<4];go5"), 0);
    }

    private static void limits() {
        Due.ruleFault("go 123456", 3, 1);
        Due.ruleFault("go 000001", 3, 1);
        Due.ruleFault("go 1 if 1 = 123456", 12, 1);
        Due.is("five digits", Due.rule(new LureTown(), "go 99999"), 0);
        String ten = "go 1 if [not [not [not [not [not ";
        Due.is("ten deep", Due.rule(new LureTown(), ten + "1=1]]]]]"), 0);
        Due.is("ten deep twice", Due.rule(new LureTown(), ten + "1=1] and not 1=1]]]] or not not 1=1"), 0);
        Due.ruleFault(ten + "[1=1]]]]]]", ten.length(), 2);
        Due.ruleFault(ten + " not 1=1]]]]]", ten.length() + 1, 2);
        // the last not ends with its fact, so there is room for one more
        Due.is("ten deep again", Due.rule(new LureTown(), ten + "1=1 and not 1=1]]]]]"), 0);
        Due.ruleFault(ten + "1=1 and not [1=1]]]]]]", ten.length() + 12, 2);
        Due.ruleFault(ten + "1=1 or [[", ten.length() + 8, 2);
        Due.ruleFault("go 1 if 1+1=2 and not 2=1 and [[[[[[[[[[[", 40, 2);
        String sixty = "go 1" + "+1".repeat(59);
        Due.is("sixty values", Due.rule(new LureTown(), sixty), 0);
        Due.ruleFault(sixty + "+1", sixty.length() + 1, 3);
        Due.ruleFault(sixty + "+ home", sixty.length() + 2, 3);
        Due.ruleFault(sixty + ";go 1", sixty.length() + 4, 3);
        Due.ruleFault(sixty + " if 1=1", sixty.length() + 4, 3);
        String most = "go 1" + "+1".repeat(58);
        Due.ruleFault(most + " if 1 = 1", most.length() + 6, 3);
        most = "go 1" + "+1".repeat(57);
        Due.ruleFault(most + " if 1 >= 1", most.length() + 9, 3);
        most = "go 1" + "+1".repeat(56);
        Due.is("sixty of both", Due.rule(new LureTown(), most + " if 1 >= 1"), 0);
        // of one place the least
        Due.ruleFault(sixty + "+x", sixty.length() + 1, 0);
        Due.ruleFault(sixty + "+111111", sixty.length() + 1, 1);
        String twelve = "go 1" + ";go 1".repeat(11);
        Due.is("twelve clauses", Due.rule(new LureTown(), twelve), 0);
        Due.ruleFault(twelve + "; go 1", twelve.length() + 2, 4);
        Due.ruleFault(twelve + "; no", twelve.length() + 2, 0);
        Due.ruleFault(twelve + ";", twelve.length() + 1, 0);
    }

    /** A rule's fault empties the tape; a town's does not. */
    private static void tapeBehindFaults() {
        LureTown x = new LureTown();
        Due.is("a fault of a whole tape", Due.rule(x, "go 1" + " ".repeat(395) + "x"), Due.fault(399, 0));
        Due.is("no tape", x.count(13), 0);
        Due.is("nothing to keep", x.end(1), -1);
        Due.is("nothing to read", x.rule(), Due.fault(0, 0));
        Due.is("feed starts anew", x.feed(0x676f2031, 0x20202020, 0x20202020, 0x20202020, 0x20202020), 20);
        Due.is("a rule of its own", x.rule(), 0);
        Due.is("a town told as a rule", Due.rule(x, "town 2"), Due.fault(0, 0));
        Due.is("no town is left of it", x.town(), Due.fault(0, 0));
        Due.is("a rule told as a town", Due.town(x, "go 2"), Due.fault(0, 0));
        Due.is("its tape stays", x.count(13), 4);
        Due.is("it is a rule still", x.rule(), 1);
    }

    /** Nothing of a text with a fault is left in the next one. */
    private static void anewBehindFaults() {
        LureTown x = Due.townOf("town 3;way 0 1;way 0 2;walker 0 0 0 0");
        Due.is("a fault", Due.rule(x, "go 1 if [not [not [not [not [not 1=1+1*2"), Due.fault(40, 0));
        Due.is("deep again", Due.rule(x, "go 1+1 if [[[[[[[[[[1=1]]]]]]]]]]"), 0);
        Due.is("a fault", Due.rule(x, "go 1;go 2 if 1=1;go 2 if 1=1;x"), Due.fault(29, 0));
        Due.is("a fault", Due.rule(x, "go 1" + "+1".repeat(60)), Due.fault(123, 3));
        Due.is("long again", Due.rule(x, "go 1;go 1" + "+1".repeat(58)), 1);
        Due.is("a fault", Due.rule(x, "go 1 if 1=2;go 2 if 1=2;go 2 if 1=2 x"), Due.fault(36, 0));
        Due.is("without tests", Due.rule(x, "go corner;go 9"), 2);
        x.force(2);
        Due.is("by its first clause", x.ahead(0, 1, 0), 2);
    }

    /** Where the walker of a town with ways from 1 to 0 and 2 goes by a rule. */
    private static int goal(String rule) {
        LureTown x = Due.townOf("town 4;way 1 0;way 1 2;way 2 3;walker 1 0 3 2;walker 2 0 3 0;walker 2 2 1 0;lure 2 3 5 1;lure 2 3 2 1;lure 2 1 9 1;lure 0 0 1 1");
        Due.is("rule '" + rule + "'", Due.rule(x, rule), 0);
        x.force(0);
        return x.ahead(0, 1, 0);
    }

    private static void goes(String rule, int corner) {
        Due.is("goal by '" + rule + "'", goal(rule), corner);
    }

    private static void sums() {
        goes("go 0", 1);
        goes("go 1", 0);
        goes("go corner", 2);
        goes("go 0 - corner", 1);
        goes("go 3 - corner", 0);
        goes("go corner * 2 % 4", 1);
        goes("go 1 + corner * corner - corner * 2 - 1", 1);
        goes("go 9 - corner - corner", 0);
        goes("go 7 / corner", 1);
        goes("go 7 % corner", 2);
        goes("go 1 if 7 / corner = 0 and 7 % corner = 0 and corner = 0", 0);
        goes("go 8 / 3 * 3 - 5 - corner", 0);
        goes("go 2 * 3 + 4 * corner", 2);
        // 64 bits go round: 65536 to the fourth is nothing
        goes("go 65536 * 65536 * 65536 * 65536 + corner % 2", 1);
        goes("go 65536 * 65536 * 65536 * 32768 * corner", 1);
        goes("go 65536 * 65536 * 65536 * 32768 * corner - corner", 1);
        goes("go 0 - 7 / 2 + 3 + corner / 2", 2);
        goes("go 10 - 3 - 7 + corner % 2", 1);
    }


    private static void tests() {
        goes("go 1 if corner = 2", 2);
        goes("go 1 if corner > 1", 2);
        goes("go 1 if corner >= 1", 1);
        goes("go 1 if corner >= 2", 2);
        goes("go 1 if corner <= 2 and corner >= 2", 2);
        goes("go 1 if corner <= 1 and corner > 0", 1);
        goes("go 2 if not corner <= 1;go 1 if not corner >= 1", 2);
        goes("go 3 - corner if corner < 0 or corner > 0", 1);
        goes("go corner if corner <= 1", 1);
        goes("go corner + 1 if corner < 1", 0);
        goes("go 1 if not corner < 2", 2);
        goes("go 1 if not not corner = 2", 2);
        goes("go 1 if not [corner = 0 or corner = 1]", 2);
        goes("go 1 if not corner = 0 and not corner = 1", 2);
        goes("go 1 if not corner = 0 or corner = 0", 0);
        // and binds more than or
        goes("go 1 if corner = 1 or corner = 2 and corner = 0", 1);
        goes("go 1 if [corner = 1 or corner = 2] and corner = 2", 2);
        // the first clause without a test, or whose test holds; 0 without
        goes("go 0 if corner = 0;go 5 if corner = 2;go 3", 2);
        goes("go 2;go 5 if corner = 2", 0);
        goes("go 0 if corner = 2;go corner", 1);
        goes("go 1 if 1 = 2", 1);
    }

    private static void words() {
        goes("go 1 if corner = 2 and walker = 0 and from = 1 and heart = 3 and wary = 2 and charge = 0 and step = 0", 2);
        goes("go 9 - home", 0);
        goes("go home", 2);
        goes("go lures", 2);
        goes("go 1 if lures = 3 and mine = 1 and others = 2", 2);
        goes("go 1 if lures = 1 and mine = 0 and others = 0 and corner = 0", 0);
        goes("go 1 if lures = 0 and mine = 0 and others = 0 and corner = 1", 1);
        LureTown x = Due.townOf("town 4;way 0 1;way 1 2;walker 0 3 0 0;lure 1 0 9 5");
        Due.rule(x, "go 1 if home = 99 and corner = from + 1");
        x.force(0);
        Due.is("99 without a row", x.step(), 1);
        Due.is("corner", x.walker(0, 0), 1);
        Due.rule(x, "go 1 if charge = 5 and wary = 1 and step = 1 and lures = 0 and corner = 1; go 1 if corner = 2");
        x.force(1);
        Due.is("stays by how it is now", x.ahead(0, 1, 0), 1);
        Due.is("goes by the step that is", x.ahead(0, 2, 0), 2);
    }
}
