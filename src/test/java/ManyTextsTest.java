import java.util.Random;

/** Promise 9 by all short texts and many long ones: faults and values, compared with SlowLaw. */
public final class ManyTextsTest {
    private static final String SIGNS = "g1(!-)+*|&<=?;";
    private static final String MORE = "gnbhpo0123456789()!-+*/%|&<=>?; xG\u00e9";
    private static final Due due = new Due();
    private static HatRank x;
    private static int calls = 512;

    public static void main(String[] args) {
        all("", 4);
        mixtures(new Random(1));
        readable(new Random(2));
        due.end();
    }

    private static void all(String text, int more) {
        look(text);
        for (int i = 0; i < SIGNS.length() && more > 0; i++) {
            all(text + SIGNS.charAt(i), more - 1);
        }
    }

    private static void mixtures(Random random) {
        for (int n = 0; n < 20000; n++) {
            StringBuilder text = new StringBuilder();
            for (int length = random.nextInt(40); length > 0; length--) {
                text.append(MORE.charAt(random.nextInt(random.nextInt(30) == 0 ? MORE.length() : 32)));
                // most letters that no text goes on with are taken back, so that texts become long
                int fault = SlowLaw.fault(text.toString());
                if (fault >= 0 && fault < text.length() && random.nextInt(40) > 0) {
                    text.setLength(text.length() - 1);
                }
            }
            look(text.toString());
        }
    }

    private static void readable(Random random) {
        for (int n = 0; n < 20000; n++) {
            StringBuilder text = new StringBuilder(RandomCalls.text(random, 0));
            for (int line = random.nextInt(4); line > 0; line--) {
                text.append(random.nextInt(2) == 0 ? "?" : ";").append(RandomCalls.text(random, 0));
            }
            text.setLength(Math.min(120, text.length()));
            look(text.toString());
        }
    }

    /** Three people, so that g n b h p o are unlike ones. */
    private static void look(String text) {
        if (calls + text.length() + 4 > 512) {
            begin();
        }
        calls += text.length() + 4;
        int fault = SlowLaw.fault(text);
        due.is("law of '" + text + "'", Due.law(x, text), fault < 0 ? 1 : -100 - fault);
        if (fault >= 0) {
            return;
        }
        int[][] named = {{9, 2, 8, 1, 0, 1}, {9, 5, 1, 1, 1, 1}, {0, 7, 3, 1, 2, 0}};
        for (int p = 0; p < 3; p++) {
            int v = SlowLaw.value(text, named[p]);
            due.is("number of " + p + " by '" + text + "'", x.of(p, 4), Math.max(0, Math.min(12, v)));
        }
    }

    private static void begin() {
        x = new HatRank();
        x.place(0);
        x.place(9);
        Due.law(x, "0");
        x.person(28, 0);
        x.person(51, 0);
        x.person(73, 1);
        x.mend(1, 3, 9);
        x.go(0, 1);
        calls = 11;
    }
}
