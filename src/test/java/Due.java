/** Collects the answers that are not the due ones. */
final class Due {
    private int wrong;
    private int asked;

    void is(String call, long got, long want) {
        asked++;
        if (got != want) {
            wrong++;
            if (wrong <= 40) {
                System.out.println(call + " answered " + got + ", due is " + want);
            }
        }
    }

    void holds(String what, boolean so) {
        is(what, so ? 1 : 0, 1);
    }

    static void feed(HatRank x, String text) {
        for (int i = 0; i < text.length(); i++) {
            x.feed(text.charAt(i));
        }
    }

    /** Feeds a text and makes it the law. */
    static int law(HatRank x, String text) {
        feed(x, text);
        return x.law();
    }

    static void row(HatRank x, int shelf, int sort, long... elements) {
        x.row(shelf, sort, elements.length);
        for (int i = 0; i < elements.length; i++) {
            x.put(shelf, i, elements[i]);
        }
    }

    void end() {
        System.out.println(wrong == 0 ? asked + " answers are as due" : wrong + " of " + asked + " answers are not as due");
        if (wrong != 0) {
            System.exit(1);
        }
    }
}
