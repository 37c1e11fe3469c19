/** Promises 8 and 9, and THE LAW's terms, at their boundaries. */
public final class LawBoundsTest {
    private static final int BAD = -1, FULL = -3, NO_FAULT = -1;
    private static final int MIN = Integer.MIN_VALUE, MAX = Integer.MAX_VALUE;
    /** The least int and the greatest, as a text of short numbers tells them. */
    private static final String LEAST = "(8192*8192*32)", GREATEST = "(8192*8192*32-1)";
    private static final Due due = new Due();
    private static final Twins house = new Twins(due, House::mixed);

    public static void main(String[] args) {
        bytesThatComeToTheTape();
        aTapeOf120();
        theTapeIsEmptyThen();
        whatBeginsAText();
        whatGoesOnBehindAnOperand();
        whatGoesOnBehindADigit();
        whatGoesOnWithinBrackets();
        oneToFourDigits();
        sixOpenAtOnce();
        closedOnesAreNotOpen();
        comparingOnce();
        linesOneOrMore();
        textsThatEndTooEarly();
        faultsAtTheTapesEnds();
        aPartForEachByte();
        intsThatWrap();
        byZero();
        towardZero();
        onesAndZeros();
        whichLineCounts();
        linesByNames();
        heldWithin0To12();
        withoutAText();
        withoutHats();
        othersAtThePlace();
        due.end();
    }

    /** "A byte (0 .. 255)". */
    private static void bytesThatComeToTheTape() {
        for (int letter : new int[] {0, 1, 127, 128, 254, 255}) {
            due.is("count(4)", house.changes(4, "feed", letter).count(4), 4);
        }
        for (int letter : new int[] {-1, 256, 257, -256, MIN, MAX}) {
            house.leaves(BAD, "feed", letter);
        }
    }

    private static HatRank tape(int length) {
        HatRank x = House.town("", 0);
        x.person(10, 0);
        Due.feed(x, "1+".repeat(60).substring(0, length));
        return x;
    }

    /** "THE TAPE (at most 120 bytes)", "FULL (120)". */
    private static void aTapeOf120() {
        new Twins(due, () -> tape(0)).changes(1, "feed", '1');
        new Twins(due, () -> tape(118)).changes(119, "feed", '1');
        HatRank x = new Twins(due, () -> tape(119)).changes(120, "feed", '+');
        due.is("the 120th byte counts", x.law(), -220);
        Twins full = new Twins(due, () -> tape(120));
        full.leaves(FULL, "feed", '1');
        full.leaves(FULL, "feed", 0);
        full.leaves(FULL, "feed", 255);
        full.leaves(BAD, "feed", -1);
        full.leaves(BAD, "feed", 256);
        HatRank y = tape(120);
        y.law();
        due.is("a byte behind it", y.feed('7'), 1);
        due.is("a law of it", y.law(), 1);
        due.is("its number", y.of(0, 4), 7);
    }

    /** "1; -100 less its FAULT; THE TAPE is empty then": a text with a fault leaves the law as it was. */
    private static void theTapeIsEmptyThen() {
        HatRank x = House.mixed();
        due.is("a good one", x.law(), 1);
        due.is("its tape", x.count(4), 0);
        due.is("it counts", x.of(4, 4), 12);
        due.is("none", x.law(), -100);
        due.is("behind none", x.count(4), 0);
        due.is("it still counts", x.of(4, 4), 12);
        due.is("a faulty one", Due.law(x, "7)"), -101);
        due.is("behind it", x.count(4), 0);
        due.is("it counts on", x.of(4, 4), 12);
        due.is("feed", x.feed('7'), 1);
        due.is("the tape alone", x.law(), 1);
        due.is("it counts instead", x.of(4, 4), 7);
    }

    private static void fault(String text, int place) {
        HatRank x = new HatRank();
        due.is("law of '" + text + "'", Due.law(x, text), place == NO_FAULT ? 1 : -100 - place);
        due.is("the tape behind '" + text + "'", x.count(4), 0);
    }

    /** Each byte behind a text: it is a whole text then, or goes on, or is the fault. */
    private static void eachByteBehind(String text, String whole, String goesOn) {
        for (char letter = 0; letter < 256; letter++) {
            int place = whole.indexOf(letter) >= 0 ? NO_FAULT
                : goesOn.indexOf(letter) >= 0 ? text.length() + 1 : text.length();
            fault(text + letter, place);
        }
    }

    /** "O = a number (1 to 4 digits), a NAME, ! O, - O, ( E )", and so all that an O is wanted behind. */
    private static void whatBeginsAText() {
        for (String text : new String[] {"", "g;", "g?", "g+", "1-", "g*", "g/", "g%", "g|", "g&", "g<", "g=", "g>", "g?n;"}) {
            eachByteBehind(text, "0123456789gnbhpo", "(!-");
        }
        for (String text : new String[] {"(", "g+(", "!(", "((g)*", "(g<"}) {
            eachByteBehind(text, "", "0123456789gnbhpo(!-");
        }
        for (String text : new String[] {"!", "-", "!-", "g--", "(g)-!"}) {
            eachByteBehind(text, "0123456789gnbhpo", "(!-");
        }
    }

    private static void whatGoesOnBehindAnOperand() {
        eachByteBehind("g", "", "+-*/%|&<=>?;");
        eachByteBehind("(g)", "", "+-*/%|&<=>?;");
        eachByteBehind("1234", "", "+-*/%|&<=>?;");
        eachByteBehind("g?n", "", "+-*/%|&<=>;");
        eachByteBehind("g?n;b", "", "+-*/%|&<=>?;");
        eachByteBehind("g<n", "", "+-*/%|&?;");
        eachByteBehind("g=n+b", "", "+-*/%|&?;");
        eachByteBehind("g>n&b", "", "+-*/%|&<=>?;");
        eachByteBehind("g>n|b", "", "+-*/%|&<=>?;");
        eachByteBehind("g>n?b", "", "+-*/%|&<=>;");
        eachByteBehind("g>n?b>h", "", "+-*/%|&;");
    }

    private static void whatGoesOnBehindADigit() {
        for (String text : new String[] {"1", "12", "123", "000", "g+1", "g?123", "!9"}) {
            String compared = text.indexOf('?') < 0 ? "?" : "";
            eachByteBehind(text, "0123456789", "+-*/%|&<=>;" + compared);
        }
    }

    private static void whatGoesOnWithinBrackets() {
        eachByteBehind("(g", ")", "+-*/%|&<=>");
        eachByteBehind("(1234", ")", "+-*/%|&<=>");
        eachByteBehind("(123", ")", "0123456789+-*/%|&<=>");
        eachByteBehind("(g<n", ")", "+-*/%|&");
        eachByteBehind("((g)", ")", "+-*/%|&<=>");
        eachByteBehind("((g", "", ")+-*/%|&<=>");
        eachByteBehind("(g)<(n", ")", "+-*/%|&<=>");
    }

    /** "a number (1 to 4 digits)". */
    private static void oneToFourDigits() {
        for (String around : new String[] {"#", "#+1", "g-#", "(#)", "!#", "-#", "#?1", "g?#", "g;#", "g<#"}) {
            int at = around.indexOf('#');
            for (String digits : new String[] {"0", "9", "00", "99", "000", "999", "0000", "9999"}) {
                fault(around.replace("#", digits), NO_FAULT);
            }
            for (String digits : new String[] {"00000", "99999", "123456789"}) {
                fault(around.replace("#", digits), at + 4);
            }
        }
        value("9999=1111*9", 1);
        value("0012", 12);
    }

    /** "At most 6 of ( ! - ahead of an O are open at once". */
    private static void sixOpenAtOnce() {
        for (String signs : new String[] {"((((((", "!!!!!!", "------", "(!-(!-", "-(-(-(", "!-!-!(", "(-----", "!!!(((" }) {
            String closing = ")".repeat(signs.length() - signs.replace("(", "").length());
            fault(signs + "g" + closing, NO_FAULT);
            fault("n+" + signs + "g" + closing, NO_FAULT);
            fault("n-" + signs + "g" + closing, NO_FAULT);
            fault("b?" + signs + "1234" + closing, NO_FAULT);
            for (String seventh : new String[] {"(", "!", "-"}) {
                fault(signs + seventh + "g" + closing, 6);
                fault("n+" + signs + seventh + "g" + closing, 8);
                fault("n-" + signs + seventh + "g" + closing, 8);
                fault("b?" + signs + seventh + "g" + closing, 8);
                fault("b;" + signs + seventh + "g" + closing, 8);
                fault("(b)=" + signs + seventh + "g" + closing, 10);
                fault(signs + seventh, 6);
            }
        }
    }

    /** What is closed is not open: a sign at its O's end, a bracket at its own. */
    private static void closedOnesAreNotOpen() {
        fault("!!!!!!g*!!!!!!g", NO_FAULT);
        fault("------g-------g", NO_FAULT);
        fault("------g--------g", 14);
        fault("((((((g))))))+((((((g))))))", NO_FAULT);
        fault("((((((g)+(g))))))", NO_FAULT);
        fault("((((((g)+((g)))))))", 10);
        fault("(!!!!!g&!!!!!g)", NO_FAULT);
        fault("(!!!!!g&!!!!!!g)", 13);
        fault("!(----g<----g)", NO_FAULT);
        fault("!(----g<-----g)", 12);
        fault("!!!!!(g+n)-!!!!!!g", NO_FAULT);
        fault("((((((g;", 7);
        // between two operands a - opens nothing
        fault("((((((5-5-5))))))", NO_FAULT);
        fault("((((((5--5))))))", 8);
        fault("(((((5--5)))))", NO_FAULT);
    }

    /** "B = S, or S < S, S = S, S > S": one sign of these in a B. */
    private static void comparingOnce() {
        for (String first : new String[] {"<", "=", ">"}) {
            fault("g" + first + "n", NO_FAULT);
            for (String second : new String[] {"<", "=", ">"}) {
                fault("g" + first + "n" + second + "b", 3);
                fault("g" + first + "n+1" + second + "b", 5);
                fault("(g" + first + "n)" + second + "b", NO_FAULT);
                fault("g" + first + "(n" + second + "b)", NO_FAULT);
                fault("g" + first + "n&b" + second + "h", NO_FAULT);
                fault("g" + first + "n|b" + second + "h", NO_FAULT);
                fault("g" + first + "n?b" + second + "h", NO_FAULT);
                fault("g" + first + "n;b" + second + "h", NO_FAULT);
                fault("g" + first + second + "n", 2);
            }
        }
    }

    /** "LINES, one or more, parted by ;", "LINE: E, or E ? E". */
    private static void linesOneOrMore() {
        fault("", 0);
        fault(";", 0);
        fault("g", NO_FAULT);
        fault("g;", 2);
        fault("g;n", NO_FAULT);
        fault("g;;n", 2);
        fault(";g", 0);
        fault("?", 0);
        fault("g?", 2);
        fault("g?n", NO_FAULT);
        fault("g?n?b", 3);
        fault("g?n;b?h", NO_FAULT);
        fault("g?;n", 2);
        fault("g?n;", 4);
        fault("(g?n)", 2);
        fault("(g;n)", 2);
        fault("1;".repeat(59) + "1", NO_FAULT);
        fault("1;".repeat(59) + "12", NO_FAULT);
        fault("1;".repeat(60), 120);
    }

    /** "the length, if it ends too early". */
    private static void textsThatEndTooEarly() {
        String[] texts = {"(", "!", "-", "g+", "g-", "g*", "g/", "g%", "g|", "g&", "g<", "g=", "g>", "g?", "g;", "(g", "((g)",
            "(g+", "!(g", "g?n;", "g?(", "((((((", "!!!!!!", "((((((g)))))"};
        for (String text : texts) {
            fault(text, text.length());
        }
    }

    /** A FAULT is a place of 0 .. 119, or the length of 0 .. 120. */
    private static void faultsAtTheTapesEnds() {
        String longest = "1+".repeat(59) + "12";
        fault(longest, NO_FAULT);
        fault(longest.substring(0, 119), NO_FAULT);
        fault(longest.substring(0, 118), 118);
        for (int place = 0; place < 120; place++) {
            fault(longest.substring(0, place) + "x" + longest.substring(place + 1), place);
        }
        fault("1+".repeat(60), 120);
        fault("1+".repeat(59) + "1?", 120);
        fault("(" + "1+".repeat(58) + "12)", NO_FAULT);
        fault("(" + "1+".repeat(58) + "123", 120);
    }

    /** Texts of 120 bytes, each of which is a sign or a number of its own; one behind another, as each law is read anew. */
    private static void aPartForEachByte() {
        String[] texts = {"-1" + "+0".repeat(58) + "+9", "!0" + "*1".repeat(58) + "*5", "-4" + "-0".repeat(58) + "*9",
            "!1" + "|0".repeat(58) + "|3"};
        int[] numbers = {8, 5, 0, 1};
        HatRank x = alone("7");
        for (int i = 0; i < texts.length; i++) {
            due.is("its length", texts[i].length(), 120);
            due.is("law of '" + texts[i] + "'", Due.law(x, texts[i]), 1);
            due.is("number by '" + texts[i] + "'", x.of(0, 4), numbers[i]);
        }
    }

    private static HatRank alone(String text) {
        HatRank x = House.town("", 0);
        x.person(10, 0);
        due.is("law of '" + text + "'", Due.law(x, text), 1);
        return x;
    }

    private static void value(String text, int number) {
        due.is("number by '" + text + "'", alone(text).of(0, 4), number);
    }

    private static void holds(String text) {
        value("(" + text + ")*7", 7);
    }

    private static void fails(String text) {
        value("(" + text + ")*7", 0);
    }

    /** "Ints that wrap". */
    private static void intsThatWrap() {
        holds(LEAST + "<0");
        holds(GREATEST + ">0");
        holds(GREATEST + "+1=" + LEAST);
        holds(LEAST + "-1=" + GREATEST);
        holds("-" + LEAST + "=" + LEAST);
        holds("-" + GREATEST + "=" + LEAST + "+1");
        holds(GREATEST + "*2=-2");
        holds(LEAST + "*2=0");
        holds(LEAST + "*-1=" + LEAST);
        holds(LEAST + "/-1=" + LEAST);
        holds(LEAST + "%-1=0");
        holds(GREATEST + "*" + GREATEST + "=1");
        fails(GREATEST + "+1>0");
        fails(LEAST + "-1<0");
    }

    /** "/ and % .. by 0 they give 0". */
    private static void byZero() {
        for (String by : new String[] {"0", "(3-3)", "!1", "-0"}) {
            for (String of : new String[] {"0", "1", "9999", "-5", LEAST, GREATEST}) {
                holds("(" + of + "/" + by + ")=0");
                holds("(" + of + "%" + by + ")=0");
            }
            holds("9/" + by + "+4=4");
            holds("9%" + by + "*2+4=4");
        }
        value("9/1", 9);
        value("9%1", 0);
        holds("9/-1=-9");
        holds("9%-1=0");
    }

    /** "/ and % toward 0". */
    private static void towardZero() {
        int[] signed = {-9, -8, -7, -5, -4, -1, 0, 1, 4, 5, 7, 8, 9};
        for (int a : signed) {
            for (int b : new int[] {-4, -3, -1, 1, 3, 4}) {
                holds(a + "/" + b + "=" + a / b);
                holds(a + "%" + b + "=" + a % b);
            }
        }
    }

    /** "| & < = > ! give 1, 0". */
    private static void onesAndZeros() {
        int[] values = {0, 1, -1, 2, 7};
        for (int a : values) {
            value("!" + a + "+5", a == 0 ? 6 : 5);
            for (int b : values) {
                value("(" + a + "|" + b + ")+5", a != 0 || b != 0 ? 6 : 5);
                value("(" + a + "&" + b + ")+5", a != 0 && b != 0 ? 6 : 5);
                value("(" + a + "<" + b + ")+5", a < b ? 6 : 5);
                value("(" + a + "=" + b + ")+5", a == b ? 6 : 5);
                value("(" + a + ">" + b + ")+5", a > b ? 6 : 5);
            }
        }
        holds(LEAST + "<" + GREATEST);
        fails(GREATEST + "<" + LEAST);
        holds(GREATEST + ">" + LEAST);
        fails(LEAST + ">" + GREATEST);
    }

    /** "The first LINE without a first E, or whose first E is not 0, counts; none: 0". */
    private static void whichLineCounts() {
        value("0?5", 0);
        value("1?5", 5);
        value("-1?5", 5);
        value(LEAST + "?5", 5);
        value("0?5;6", 6);
        value("1?5;6", 5);
        value("6;5", 6);
        value("0;5", 0);
        value("0?5;0?6;0?7", 0);
        value("0?5;0?6;7?7", 7);
        value("0?5;2?6;7?7", 6);
        value("0?5;3;7?7", 3);
        value("0?1;".repeat(29) + "1?9", 9);
        value("0?1;".repeat(29) + "0?9", 0);
    }

    /** A NAME alone as the first E: 0 or not. Two people, in an hour's wind that one of them has none of. */
    private static void linesByNames() {
        HatRank x = House.town("0", 3, 2);
        x.person(10, 0);
        x.person(11, 1);
        String[] names = {"g", "n", "b", "h", "p", "o"};
        boolean[][] not0 = {{false, true, false, false, false, false}, {true, true, true, false, true, false}};
        for (int i = 0; i < names.length; i++) {
            Due.law(x, names[i] + "?5;7");
            for (int p = 0; p < 2; p++) {
                due.is("by '" + names[i] + "?5;7' of " + p, x.of(p, 4), not0[p][i] ? 5 : 7);
            }
        }
        House.calmHours(x, 1);
        x.person(10, 0);
        for (String name : new String[] {"h", "o"}) {
            Due.law(x, name + "?5;7");
            due.is("by '" + name + "?5;7' of 0", x.of(0, 4), 5);
        }
    }

    /** "held within 0 .. 12". */
    private static void heldWithin0To12() {
        for (int v = -3; v <= 15; v++) {
            value(Integer.toString(v), Math.max(0, Math.min(12, v)));
        }
        value("-9999", 0);
        value("9999", 12);
        value(LEAST, 0);
        value(GREATEST, 12);
    }

    /** "Without a text g and n less b", held likewise; a GUST is "0 at least". */
    private static void withoutAText() {
        for (int lee = 0; lee <= 9; lee += 3) {
            for (int blow = 0; blow <= 9; blow++) {
                HatRank x = House.town("", lee);
                x.person(10, 0);
                x.person(19, 0);
                x.person(40, 0);
                x.person(93, 0);
                x.mend(0, 3, blow);
                int gust = Math.max(0, blow - lee);
                due.is("GUST", x.of(0, 13), gust);
                due.is("1 less 0", x.of(0, 4), gust + 1);
                due.is("1 less 9", x.of(1, 4), Math.max(0, gust - 8));
                due.is("4 less 0", x.of(2, 4), Math.min(12, gust + 4));
                due.is("9 less 3", x.of(3, 4), Math.min(12, gust + 6));
            }
        }
    }

    /** "0 without HATS". */
    private static void withoutHats() {
        HatRank x = House.town("", 0);
        x.person(0, 0);
        x.person(10, 0);
        due.is("none, without a text", x.of(0, 4), 0);
        due.is("one, without a text", x.of(1, 4), 4);
        Due.law(x, "12");
        due.is("none, by a text", x.of(0, 4), 0);
        due.is("one, by a text", x.of(1, 4), 12);
    }

    /** "o how many others are at the PLACE": none of itself, all of the rest. */
    private static void othersAtThePlace() {
        HatRank x = House.town("o", 0, 0);
        for (int n = 1; n <= 6; n++) {
            x.person(10, 1);
            for (int p = 0; p < n; p++) {
                due.is("others of " + p + " of " + n, x.of(p, 4), n - 1);
            }
        }
    }
}
