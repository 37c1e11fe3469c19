/** Promises 8 and 9: feed, law; and what a text gives. */
public final class LawTest {
    private static final Due due = new Due();

    public static void main(String[] args) {
        feeds();
        faults();
        faultsOfDepth();
        values();
        names();
        holding();
        whatStays();
        longTexts();
        due.end();
    }

    private static void feeds() {
        HatRank x = new HatRank();
        due.is("feed(-1)", x.feed(-1), -1);
        due.is("feed(256)", x.feed(256), -1);
        due.is("feed(MIN)", x.feed(Integer.MIN_VALUE), -1);
        for (int i = 1; i <= 120; i++) {
            due.is("feed", x.feed(i == 1 ? 0 : 255), i);
            due.is("count(4)", x.count(4), i);
        }
        due.is("feed when full", x.feed(1), -3);
        due.is("a bad byte when full", x.feed(256), -1);
        due.is("count(4)", x.count(4), 120);
        due.is("law", x.law(), -100);
        due.is("the tape is empty behind a fault", x.count(4), 0);
    }

    private static void faults() {
        fault("", 0);
        fault(";", 0);
        fault("g;", 2);
        fault("g;;g", 2);
        fault("g?", 2);
        fault("?g", 0);
        fault("g?n?b", 3);
        fault("g?n;b?h;", 8);
        fault("(g?n)", 2);
        fault("(g;n)", 2);
        fault("12345", 4);
        fault("1234", -1);
        fault("0000", -1);
        fault("00001", 4);
        fault("g g", 1);
        fault(" g", 0);
        fault("gn", 1);
        fault("g1", 1);
        fault("1g", 1);
        fault("g(n)", 1);
        fault("(g)n", 3);
        fault("g<n<b", 3);
        fault("g<n=b", 3);
        fault("g<n&n>b", -1);
        fault("(g<n)<b", -1);
        fault("g<(n<b)", -1);
        fault("g<n|b=h", -1);
        fault("g+", 2);
        fault("g++n", 2);
        fault("+g", 0);
        fault("g--n", -1);
        fault("g-!n", -1);
        fault("g!n", 1);
        fault("*g", 0);
        fault("g*-n", -1);
        fault("g*+n", 2);
        fault("()", 1);
        fault("(g", 2);
        fault("g)", 1);
        fault("((g)", 4);
        fault("((g)))", 5);
        fault("x", 0);
        fault("G", 0);
        fault("g&", 2);
        fault("g&&n", 2);
        fault("g||n", 2);
        fault("g==n", 2);
        fault("g<", 2);
        fault("!", 1);
        fault("-", 1);
        fault("g\u00e9", 1);
        fault("\u0000", 0);
        fault("g;n;b;h;p;o", -1);
        fault("g?n;b", -1);
    }

    private static void faultsOfDepth() {
        fault("((((((g))))))", -1);
        fault("(((((((g)))))))", 6);
        fault("!!!!!!g", -1);
        fault("!!!!!!!g", 6);
        fault("------g", -1);
        fault("-------g", 6);
        fault("g-------g", -1);
        fault("g--------g", 8);
        fault("g-!-(-!-g)", -1);
        fault("(!-(!-g))", -1);
        fault("(!-(!-!g))", 6);
        fault("(!-(!-g)-g)", -1);
        fault("!!!!!!g+!!!!!!g", -1);
        fault("(!!!!!g+!!!!!g)", -1);
        fault("(!!!!!g+!!!!!!g)", 13);
        fault("(!!!!!(g", 6);
        fault("(!!!!!5-5)", -1);
        fault("((((((5-5", 9);
        fault("((((((5--5", 8);
        fault("g?((((((g))))));-!-!-!g?1", -1);
    }

    /** -1: no fault. */
    private static void fault(String text, int place) {
        HatRank x = new HatRank();
        due.is("law of '" + text + "'", Due.law(x, text), place < 0 ? 1 : -100 - place);
        due.is("count(4) behind '" + text + "'", x.count(4), 0);
    }

    private static void values() {
        value("7", 7);
        value("0012", 12);
        value("1+2*3", 7);
        value("(1+2)*3", 9);
        value("9-4-3", 2);
        value("9-(4-3)", 8);
        value("9/2", 4);
        value("9/2*2", 8);
        value("9%5", 4);
        value("8/4/2", 1);
        value("9%5%3", 1);
        value("2*9%5", 3);
        value("5/0", 0);
        value("5%0", 0);
        value("7+5/0", 7);
        value("0-7/2+9", 6);
        value("-7/2+9", 6);
        value("-7%4+9", 6);
        value("7%-4", 3);
        value("--5", 5);
        value("-5+9", 4);
        value("-5*-2", 10);
        value("!0", 1);
        value("!5", 0);
        value("!!5", 1);
        value("!0+4", 5);
        value("-!0+4", 3);
        value("3|0", 1);
        value("0|0", 0);
        value("3&4", 1);
        value("3&0", 0);
        value("2|0&0", 1);
        value("(2|0)&0", 0);
        value("1<2", 1);
        value("2<2", 0);
        value("2=2", 1);
        value("2=3", 0);
        value("3>2", 1);
        value("2>2", 0);
        value("1+1=2", 1);
        value("1=1+1", 0);
        value("3>2&4>3", 1);
        value("3>2&3>4", 0);
        value("3>4|4>3", 1);
        value("0?5;6", 6);
        value("1?5;6", 5);
        value("-1?5;6", 5);
        value("0?5;0?6", 0);
        value("0?5;0;7", 0);
        value("0?5;2?6;7", 6);
        value("3?0;7", 0);
        value("9999*9999*9999*9999", 12);
        value("9999*9999*9999/9999/9999*0+2", 2);
        // 65536 * 65536 wraps to 0, 65536 * 32768 to the least int, which is less than 0
        value("(256*256)*(256*256)+5", 5);
        value("(256*256)*(256*128)<0", 1);
        value("(256*256)*(256*128)/-1<0", 1);
        value("(256*256)*(256*128)%-1", 0);
        value("-((256*256)*(256*128))<0", 1);
        value("(256*256)*(256*128)-1>0", 1);
    }

    private static void value(String text, int number) {
        HatRank x = new HatRank();
        x.place(0);
        x.person(10, 0);
        due.is("law of '" + text + "'", Due.law(x, text), 1);
        due.is("number by '" + text + "'", x.of(0, 4), number);
    }

    private static void names() {
        HatRank x = new HatRank();
        x.place(0);
        x.place(2);
        x.person(10, 0);
        x.person(20, 1);
        x.person(58, 1);
        x.person(0, 1);
        x.mend(4, 3, 9);
        x.go(0, 4);
        x.image();
        int hats = x.of(2, 0);
        named(x, "g", 7);
        named(x, "n", hats);
        named(x, "b", 8);
        named(x, "h", 4);
        named(x, "p", 2);
        named(x, "o", 2);
        named(x, "g*0+o*0+n-n+b", 8);
        x.move(0, 1);
        named(x, "o", 2);
        x.way(1);
        x.move(0, 1);
        named(x, "o", 3);
    }

    private static void named(HatRank x, String text, int number) {
        due.is("law of '" + text + "'", Due.law(x, text), 1);
        due.is("number of 2 by '" + text + "'", x.of(2, 4), number);
    }

    private static void holding() {
        HatRank x = new HatRank();
        x.place(0);
        x.person(10, 0);
        x.person(0, 0);
        due.is("without a text", x.of(0, 4), 4);
        Due.law(x, "13");
        due.is("held to 12", x.of(0, 4), 12);
        due.is("without HATS", x.of(1, 4), 0);
        Due.law(x, "-1");
        due.is("held to 0", x.of(0, 4), 0);
        Due.law(x, "12");
        due.is("12 itself", x.of(0, 4), 12);
    }

    private static void whatStays() {
        HatRank x = new HatRank();
        x.place(0);
        x.person(10, 0);
        due.is("a good law", Due.law(x, "5"), 1);
        due.is("a faulty one", Due.law(x, "6?7;8;"), -106);
        due.is("the old one stays", x.of(0, 4), 5);
        due.is("an empty one", x.law(), -100);
        due.is("the old one still stays", x.of(0, 4), 5);
        due.is("another good one", Due.law(x, "n+8"), 1);
        due.is("it counts", x.of(0, 4), 9);
        due.is("a faulty one again", Due.law(x, "1+"), -102);
        due.is("the latest good one stays", x.of(0, 4), 9);
    }

    private static void longTexts() {
        HatRank x = new HatRank();
        x.place(0);
        x.person(10, 0);
        due.is("120 bytes", Due.law(x, "0+".repeat(59) + "11"), 1);
        due.is("what they give", x.of(0, 4), 11);
        due.is("60 lines that end too early", Due.law(x, "0;".repeat(60)), -220);
        due.is("lines of conditions", Due.law(x, "0?1;".repeat(29) + "1?10"), 1);
        due.is("what they give", x.of(0, 4), 10);
        due.is("a fault at the end", Due.law(x, "0?1;".repeat(29) + "1?1n"), -219);
        due.is("the old one stays", x.of(0, 4), 10);
        due.is("120 bytes of parts", Due.law(x, "!".repeat(5) + "0*" + "(0)+".repeat(28) + "8"), 1);
        due.is("what they give", x.of(0, 4), 8);
    }
}
