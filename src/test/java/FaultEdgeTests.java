/** The edges of faults: a test of its own for each sentence that tells one, of towns and of rules. */
public final class FaultEdgeTests {
    public static void main(String[] args) {
        firstAlongTheText();
        numberOfAFault();
        byteWordOrEnd();
        behindTheLastByte();
        numbers();
        secondCornerOfAWay();
        tooDeep();
        partTooMany();
        clauseTooMany();
        secondTown();
        aheadOfTown();
        seventhLure();
        sixthWalker();
        ofOnePlaceTheLeast();
        Due.leave();
    }

    private static final String LURES = "town 2" + ";lure 0 0 1 1".repeat(6);
    private static final String WALKERS = "town 2" + ";walker 0 0 0 0".repeat(5);
    private static final String FORTY = "town 2" + ";way 0 1".repeat(39);
    private static final String TWELVE = "go 1" + ";go 1".repeat(11);
    private static final String SIXTY = "go 1" + "+1".repeat(59);
    private static final String DEEP = "go 1 if " + "[".repeat(10);

    private static void firstAlongTheText() {
        Due.words("FAULTS, the first along the text");
        Due.townFault("town 9;way x;town", 5, 1);
        Due.townFault("town 2;way 0 7 7;town 2", 13, 1);
        Due.townFault("town 2;town 1;!", 7, 4);
        Due.townFault("town 2;way 0;way 9 9", 12, 0);
        Due.townFault("way 0 0;town 9", 0, 4);
        Due.townFault("town 2!;town 2", 6, 0);
        Due.ruleFault("go 123456 if [[[[[[[[[[[", 3, 1);
        Due.ruleFault("go 1 if [[[[[[[[[[[123456", 18, 2);
        Due.ruleFault("go 1;go x;go 123456", 8, 0);
        Due.ruleFault(SIXTY + "+1+123456", SIXTY.length() + 1, 3);
        Due.ruleFault(SIXTY + "!+1", SIXTY.length(), 0);
        Due.ruleFault(TWELVE + "!;go 1", TWELVE.length(), 0);
        Due.ruleFault(TWELVE + ";go 123456", TWELVE.length() + 1, 4);
    }

    private static void numberOfAFault() {
        Due.words("1 + 8 * its place and: 0 a byte");
        Due.is("at place 0, sort 0", Due.town(new LureTown(), ""), -3);
        Due.is("at place 0, sort 4", Due.town(new LureTown(), "way 0 1"), -7);
        Due.is("at place 5, sort 1", Due.town(new LureTown(), "town 1"), -44);
        Due.is("at place 400, sort 0", Due.town(new LureTown(), "town 2" + " ".repeat(393) + ";"), -3203);
        Due.is("at place 0, sort 0", Due.rule(new LureTown(), ""), -3);
        Due.is("at place 3, sort 1", Due.rule(new LureTown(), "go 100000"), -28);
        Due.is("at place 18, sort 2", Due.rule(new LureTown(), DEEP + "["), -149);
        Due.is("at place 123, sort 3", Due.rule(new LureTown(), SIXTY + "+1"), -990);
        Due.is("at place 60, sort 4", Due.rule(new LureTown(), TWELVE + ";go 1"), -487);
        Due.is("at place 400, sort 0", Due.rule(new LureTown(), "go 1" + " ".repeat(395) + ";"), -3203);
    }

    private static void byteWordOrEnd() {
        Due.words("0 a byte or WORD that can't stand there");
        for (String odd : new String[] {"!", "(", ")", "{", ",", ".", "\"", "A", "Z", "@", "`", "_", "\u0000", "\u001f", "\u007f", "\u0080", "\u00ff", "x",
            "if", "and", "or", "not", "go"}) {
            Due.townFault(odd, 0, 0);
            Due.townFault("town 2 " + odd, 7, 0);
            Due.townFault("town " + odd, 5, 0);
            Due.townFault("town 2;" + odd, 7, 0);
            Due.townFault("town 2;way 0 " + odd + " 1", 13, 0);
        }
        for (String odd : new String[] {"!", "(", ")", "{", ",", ".", "\"", "A", "Z", "@", "`", "_", "\u0000", "\u001f", "\u007f", "\u0080", "\u00ff", "x",
            "town", "way", "lure"}) {
            Due.ruleFault(odd, 0, 0);
            Due.ruleFault("go " + odd, 3, 0);
            Due.ruleFault("go 1 " + odd, 5, 0);
            Due.ruleFault("go 1+" + odd, 5, 0);
            Due.ruleFault("go 1 if " + odd, 8, 0);
            Due.ruleFault("go 1 if 1 " + odd, 10, 0);
            Due.ruleFault("go 1 if 1=" + odd, 10, 0);
            Due.ruleFault("go 1 if not " + odd, 12, 0);
            Due.ruleFault("go 1 if [1=1 " + odd, 13, 0);
            Due.ruleFault("go 1;" + odd, 5, 0);
        }
        // each sign and word where it can't stand
        for (String sign : new String[] {";", "[", "]", "+", "-", "*", "/", "%", "<", "<=", "=", ">=", ">"}) {
            Due.ruleFault(sign, 0, 0);
            Due.ruleFault("go " + sign, 3, 0);
            Due.townFault(sign, 0, 0);
            Due.townFault("town " + sign, 5, 0);
        }
    }

    /** The end counts as a byte behind the last one, blanks among them. */
    private static void behindTheLastByte() {
        Due.words("or the end (behind the last byte)");
        String town = "town 3;way 0 1;lure 0 1 2 3;walker 0 1 2 3";
        endsOfTown(town, 0, 4, 5, 7, 10, 11, 12, 13, 15, 19, 20, 21, 22, 23, 24, 25, 26, 28, 34, 35, 36, 37, 38, 39, 40, 41);
        String rule = "go 1+2 if not [3=4] and 5<=6;go 7";
        endsOfRule(rule, 0, 2, 3, 5, 9, 10, 13, 14, 15, 16, 17, 18, 23, 24, 25, 27, 29, 31, 32);
    }

    private static void endsOfTown(String text, int... cuts) {
        for (int cut : cuts) {
            Due.townFault(text.substring(0, cut), cut, 0);
            Due.townFault(text.substring(0, cut) + "   ", cut + 3, 0);
        }
    }

    private static void endsOfRule(String text, int... cuts) {
        for (int cut : cuts) {
            Due.ruleFault(text.substring(0, cut), cut, 0);
            Due.ruleFault(text.substring(0, cut) + "   ", cut + 3, 0);
        }
    }

    private static void numbers() {
        Due.words("1 a NUMBER of more digits, or not as told");
        Due.townFault("town 111111", 5, 1);
        Due.townFault("town   000008", 7, 1);
        Due.townFault("town 2;way 000000 1", 11, 1);
        Due.townFault("town 2;way 2 1", 11, 1);
        Due.townFault("town 2;lure 0 8 1 1", 14, 1);
        Due.townFault("town 2;lure 0 0 0 1", 16, 1);
        Due.townFault("town 2;lure 0 0 1 21", 18, 1);
        Due.townFault("town 2;walker 0 0 0 10", 20, 1);
        Due.ruleFault("go 1;go 2*000000", 10, 1);
        Due.ruleFault("go 1 if not [  999999=1]", 15, 1);
    }

    private static void secondCornerOfAWay() {
        Due.words("(of way the second CORNER, if it is the first)");
        Due.townFault("town 2;way 0 0", 13, 1);
        Due.townFault("town 2;way 1   1", 15, 1);
        Due.townFault("town 2;way 1 00001", 13, 1);
        Due.townFault("town 8;way 7 7;x", 13, 1);
        // the one ahead of it is asked first
        Due.townFault("town 2;way 2 2", 11, 1);
    }

    private static void tooDeep() {
        Due.words("2 too deep (at the sign that opens, or the word not)");
        Due.ruleFault(DEEP + "[1=1", 18, 2);
        Due.ruleFault(DEEP + "not 1=1", 18, 2);
        Due.ruleFault(DEEP + "  [", 20, 2);
        Due.ruleFault(DEEP + "1=1 and not", 26, 2);
        Due.ruleFault("go 1;go 1 if " + "not ".repeat(10) + "[1=1]", 53, 2);
        Due.ruleFault("go 1;go 1 if " + "not".concat(" ").repeat(10) + "not", 53, 2);
    }

    private static void partTooMany() {
        Due.words("3 one VALUE or FACT too many (at its first byte; of a FACT at its SIGN)");
        Due.ruleFault(SIXTY + "+12345", SIXTY.length() + 1, 3);
        Due.ruleFault(SIXTY + "%   others", SIXTY.length() + 4, 3);
        Due.ruleFault(SIXTY + ";go walker", SIXTY.length() + 4, 3);
        String fiftyNine = "go 1" + "+1".repeat(58);
        for (String sign : new String[] {"<", "<=", "=", ">=", ">"}) {
            Due.ruleFault(fiftyNine + " if 1 " + sign + " 1", fiftyNine.length() + 6, 3);
        }
        Due.ruleFault(fiftyNine + " if [not home<1", fiftyNine.length() + 13, 3);
    }

    private static void clauseTooMany() {
        Due.words("4 one CLAUSE too many");
        Due.townFault(FORTY + ";way 0 1", FORTY.length() + 1, 4);
        Due.townFault(FORTY + ";   walker 0 0 0 0", FORTY.length() + 4, 4);
        Due.townFault(FORTY + ";town 2", FORTY.length() + 1, 4);
        Due.ruleFault(TWELVE + ";go 1", TWELVE.length() + 1, 4);
        Due.ruleFault(TWELVE + ";   go", TWELVE.length() + 4, 4);
    }

    private static void secondTown() {
        Due.words("a second town");
        Due.townFault("town 2;town 2", 7, 4);
        Due.townFault("town 2;  town", 9, 4);
        Due.townFault("town 2;way 0 1;town x", 15, 4);
    }

    private static void aheadOfTown() {
        Due.words("another CLAUSE ahead of it");
        Due.townFault("way", 0, 4);
        Due.townFault("  lure 0 0 1 1;town 2", 2, 4);
        Due.townFault(" walker x", 1, 4);
    }

    private static void seventhLure() {
        Due.words("a seventh LURE");
        Due.is("six", Due.town(new LureTown(), LURES), 0);
        Due.townFault(LURES + ";lure 0 0 1 1", LURES.length() + 1, 4);
        Due.townFault(LURES + ";  lure 9", LURES.length() + 3, 4);
        Due.townFault(LURES + ";way 0 1;lure", LURES.length() + 9, 4);
    }

    private static void sixthWalker() {
        Due.words("a sixth WALKER (at its first byte)");
        Due.is("five", Due.town(new LureTown(), WALKERS), 5);
        Due.townFault(WALKERS + ";walker 0 0 0 0", WALKERS.length() + 1, 4);
        Due.townFault(WALKERS + ";  walker 9", WALKERS.length() + 3, 4);
        Due.townFault(WALKERS + ";lure 0 0 1 1;walker", WALKERS.length() + 14, 4);
    }

    private static void ofOnePlaceTheLeast() {
        Due.words("Of one place the least.");
        // 0 ahead of 4: what begins no clause where a clause is too many
        Due.townFault(FORTY + ";x", FORTY.length() + 1, 0);
        Due.townFault(FORTY + ";", FORTY.length() + 1, 0);
        Due.townFault(FORTY + ";;", FORTY.length() + 1, 0);
        Due.townFault(FORTY + "; 2", FORTY.length() + 2, 0);
        Due.ruleFault(TWELVE + ";x", TWELVE.length() + 1, 0);
        Due.ruleFault(TWELVE + ";", TWELVE.length() + 1, 0);
        Due.ruleFault(TWELVE + ";1", TWELVE.length() + 1, 0);
        // 0 ahead of 1: a number of more digits where none can stand
        Due.townFault("111111", 0, 0);
        Due.townFault("town 2 111111", 7, 0);
        Due.ruleFault("111111", 0, 0);
        Due.ruleFault("go 1 111111", 5, 0);
        // 0 ahead of 2: what is too deep where it can't stand
        Due.ruleFault(DEEP + "1=1 [", 22, 0);
        Due.ruleFault(DEEP + "1 not", 20, 0);
        Due.ruleFault(DEEP + "1=[", 20, 0);
        // 0 and 1 ahead of 3: a value too many that is none, or of more digits; a sign where none can stand
        Due.ruleFault(SIXTY + "+x", SIXTY.length() + 1, 0);
        Due.ruleFault(SIXTY + "+", SIXTY.length() + 1, 0);
        Due.ruleFault(SIXTY + "=1", SIXTY.length(), 0);
        Due.ruleFault(SIXTY + "+111111", SIXTY.length() + 1, 1);
    }
}
