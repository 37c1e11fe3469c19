/** Promises 24 to 27 and 37: image, back, undo, redo, count. */
public final class KeepingTest {
    private static final int BAD = -1, STATE = -5;
    private static final Due due = new Due();

    public static void main(String[] args) {
        images();
        whatCameSince();
        whatAnImageLeaves();
        undoing();
        mendingToTheSame();
        mendingToTheSameBehindForty();
        doingAgain();
        fortyChanges();
        fortyOfEachKind();
        undoingEachKind();
        counts();
        due.end();
    }

    private static void images() {
        HatRank x = new HatRank();
        due.is("none", x.back(), STATE);
        x.place(0);
        x.place(0);
        x.way(1);
        x.mend(0, 2, 1);
        Due.law(x, "12");
        x.person(50, 0);
        x.person(20, 1);
        x.lay(0);
        x.go(0, 2);
        due.is("image", x.image(), 2);
        int zero = x.of(0, 0);
        int one = x.of(1, 0);
        int lying0 = x.of(0, 12);
        int lying1 = x.of(1, 12);
        for (int time = 0; time < 2; time++) {
            x.move(0, 1);
            x.move(1, 0);
            x.lay(0);
            x.lay(1);
            x.go(0, 5);
            due.is("back", x.back(), 2);
            due.is("NOW", x.count(3), 2);
            due.is("HATS of 0", x.of(0, 0), zero);
            due.is("HATS of 1", x.of(1, 0), one);
            due.is("PLACE of 0", x.of(0, 2), 0);
            due.is("PLACE of 1", x.of(1, 2), 1);
            due.is("LYING at 0", x.of(0, 12), lying0);
            due.is("LYING at 1", x.of(1, 12), lying1);
        }
        x.go(0, 3);
        due.is("a newer image", x.image(), 5);
        x.go(0, 19);
        due.is("NOW 24", x.count(3), 24);
        due.is("back to the newer one", x.back(), 5);
        due.is("hours can go again", x.go(0, 19) >= 0 ? 1 : 0, 1);
    }

    private static void whatCameSince() {
        HatRank x = new HatRank();
        Due.law(x, "0");
        x.place(0);
        x.person(10, 0);
        x.lay(0);
        x.image();
        x.place(0);
        x.way(1);
        x.person(70, 0);
        x.lay(1);
        x.lay(1);
        x.lay(1);
        x.move(1, 1);
        x.go(0, 1);
        due.is("back", x.back(), 0);
        due.is("HATS of one that was", x.of(0, 0), 1);
        due.is("LYING at a place that was", x.of(0, 12), 1);
        due.is("HATS of one that came since", x.of(1, 0), 8);
        due.is("PLACE of one that came since", x.of(1, 2), 1);
        due.is("LYING at a place that came since", x.of(1, 12), 2);
        due.is("PEOPLE", x.count(0), 2);
        due.is("PLACES", x.count(1), 2);
        due.is("WAYS", x.count(2), 1);
    }

    private static void whatAnImageLeaves() {
        HatRank x = new HatRank();
        x.place(0);
        x.person(15, 0);
        x.image();
        x.mend(0, 0, 2);
        x.mend(0, 1, 3);
        x.mend(0, 2, 4);
        x.mend(0, 3, 5);
        Due.law(x, "12");
        x.go(0, 1);
        x.feed('g');
        x.back();
        due.is("BRIM", x.of(0, 1), 2);
        due.is("LEE", x.of(0, 10), 3);
        due.is("DOWN", x.of(0, 11), 4);
        due.is("BLOW", x.of(0, 20), 5);
        due.is("THE LAW", x.of(0, 4), 12);
        due.is("changes", x.count(5), 4);
        due.is("THE TAPE", x.count(4), 1);
        due.is("LED is of the latest hour in deed", x.led(0), -2);
    }

    private static void undoing() {
        HatRank x = new HatRank();
        due.is("undo nothing", x.undo(), STATE);
        due.is("redo nothing", x.redo(), STATE);
        x.mend(5, 3, 7);
        x.mend(5, 3, 8);
        x.mend(6, 3, 1);
        x.mend(24, 3, 1);
        due.is("count(5)", x.count(5), 3);
        due.is("undo", x.undo(), 2);
        due.is("the latest first", x.of(6, 20), 3);
        due.is("the others stay", x.of(5, 20), 8);
        due.is("undo", x.undo(), 1);
        due.is("it was 7", x.of(5, 20), 7);
        due.is("undo", x.undo(), 0);
        due.is("it was 3", x.of(5, 20), 3);
        due.is("no more", x.undo(), STATE);
        due.is("count(5)", x.count(5), 0);
        due.is("redo", x.redo(), 2);
        due.is("7 again", x.of(5, 20), 7);
    }

    private static void mendingToTheSame() {
        HatRank x = new HatRank();
        x.place(5);
        x.person(16, 0);
        int[] stands = {6, 5, 0, 3};
        for (int what = 0; what < 4; what++) {
            due.is("what it was", x.mend(0, what, stands[what]), stands[what]);
            due.is("nothing changed", x.count(5), 0);
            due.is("nothing may be undone", x.undo(), STATE);
        }
        for (int what = 0; what < 4; what++) {
            x.mend(0, what, 1);
            due.is("what it was", x.mend(0, what, 1), 1);
            due.is("one change of each kind", x.count(5), what + 1);
        }
        x.undo();
        x.undo();
        for (int what = 0; what < 4; what++) {
            int v = what < 2 ? 1 : stands[what];
            due.is("what it was", x.mend(0, what, v), v);
        }
        due.is("count(5)", x.count(5), 2);
        due.is("none came behind", x.redo(), 1);
        due.is("DOWN again", x.of(0, 11), 1);
        due.is("redo", x.redo(), 0);
        due.is("BLOW again", x.of(0, 20), 1);
        due.is("redo", x.redo(), STATE);
        due.is("undo", x.undo(), 3);
        due.is("another value than it was changes", x.mend(0, 3, 2), 3);
        due.is("came behind", x.redo(), STATE);
        due.is("count(5)", x.count(5), 4);
    }

    private static void mendingToTheSameBehindForty() {
        HatRank x = new HatRank();
        for (int i = 0; i < 40; i++) {
            x.mend(i % 24, 3, blow(i));
        }
        for (int hour = 0; hour < 24; hour++) {
            int stands = x.of(hour, 20);
            due.is("what it was", x.mend(hour, 3, stands), stands);
        }
        for (int i = 39; i >= 0; i--) {
            due.is("none of the forty was lost", x.undo(), i);
        }
        due.is("no more", x.undo(), STATE);
        for (int hour = 0; hour < 24; hour++) {
            due.is("3 at first", x.of(hour, 20), 3);
        }
    }

    private static void doingAgain() {
        HatRank x = new HatRank();
        x.mend(0, 3, 4);
        x.mend(0, 3, 5);
        x.mend(0, 3, 6);
        due.is("nothing is undone", x.redo(), STATE);
        x.undo();
        x.undo();
        due.is("redo", x.redo(), 1);
        due.is("5 again", x.of(0, 20), 5);
        due.is("count(5)", x.count(5), 2);
        due.is("redo", x.redo(), 0);
        due.is("6 again", x.of(0, 20), 6);
        due.is("redo", x.redo(), STATE);
        due.is("undo", x.undo(), 2);
        due.is("a bad one changes nothing", x.mend(0, 3, 10), BAD);
        due.is("redo", x.redo(), 0);
        x.undo();
        x.go(0, 1);
        x.place(0);
        x.lay(0);
        x.image();
        x.back();
        due.is("what is no change does not matter", x.redo(), 0);
        x.undo();
        x.undo();
        due.is("another one", x.mend(1, 3, 9), 3);
        due.is("came behind", x.redo(), STATE);
        due.is("undo", x.undo(), 1);
        due.is("3 again", x.of(1, 20), 3);
        due.is("undo", x.undo(), 0);
        due.is("3 at first", x.of(0, 20), 3);
    }

    private static void fortyChanges() {
        HatRank x = new HatRank();
        int[] was = new int[45];
        for (int i = 0; i < 45; i++) {
            was[i] = i < 24 ? 3 : blow(i - 24);
            due.is("mend", x.mend(i % 24, 3, blow(i)), was[i]);
            due.is("count(5)", x.count(5), Math.min(40, i + 1));
        }
        for (int i = 44; i >= 5; i--) {
            due.is("undo", x.undo(), i - 5);
            due.is("as it was", x.of(i % 24, 20), was[i]);
        }
        due.is("the 41st is not kept", x.undo(), STATE);
        for (int hour = 0; hour < 24; hour++) {
            due.is("what can and can't be undone", x.of(hour, 20), hour < 5 ? blow(hour) : 3);
        }
        for (int i = 5; i < 45; i++) {
            due.is("redo", x.redo(), 44 - i);
            due.is("as it became", x.of(i % 24, 20), blow(i));
        }
        due.is("redo", x.redo(), STATE);
        x.undo();
        x.undo();
        x.mend(0, 3, 9);
        due.is("38 and one", x.count(5), 39);
    }

    /** Of 45 changes, round the hours, each becomes something else than what it was. */
    private static int blow(int change) {
        return change < 24 ? 4 + change % 6 : change % 3;
    }

    private static void fortyOfEachKind() {
        HatRank x = new HatRank();
        for (int place = 0; place < 5; place++) {
            x.place(9);
            x.person(19, place);
        }
        int[] ofWhat = {1, 10, 11, 20};
        int[][] changes = new int[53][];
        for (int i = 0; i < changes.length; i++) {
            int what = i % 4;
            int number = i / 4 % 5;
            // never what stands there: that would be no change
            int v = i * 5 % 7;
            changes[i] = new int[] {number, ofWhat[what], x.of(number, ofWhat[what]), v};
            due.is("mend", x.mend(number, what, v), changes[i][2]);
        }
        for (int i = 52; i >= 13; i--) {
            due.is("undo", x.undo(), i - 13);
            due.is("as it was", x.of(changes[i][0], changes[i][1]), changes[i][2]);
        }
        due.is("undo", x.undo(), STATE);
        for (int i = 13; i < 53; i++) {
            due.is("redo", x.redo(), 52 - i);
            due.is("as it became", x.of(changes[i][0], changes[i][1]), changes[i][3]);
        }
    }

    private static void undoingEachKind() {
        HatRank x = new HatRank();
        x.place(1);
        x.place(2);
        x.person(13, 1);
        x.mend(0, 0, 8);
        x.mend(1, 1, 7);
        x.mend(1, 2, 6);
        x.mend(1, 3, 5);
        x.undo();
        due.is("BLOW", x.of(1, 20), 3);
        x.undo();
        due.is("DOWN", x.of(1, 11), 1);
        x.undo();
        due.is("LEE", x.of(1, 10), 2);
        x.undo();
        due.is("BRIM", x.of(0, 1), 3);
        x.redo();
        due.is("BRIM again", x.of(0, 1), 8);
        x.redo();
        due.is("LEE again", x.of(1, 10), 7);
        x.redo();
        due.is("DOWN again", x.of(1, 11), 6);
        x.redo();
        due.is("BLOW again", x.of(1, 20), 5);
    }

    private static void counts() {
        HatRank x = new HatRank();
        x.place(0);
        x.place(0);
        x.place(0);
        x.way(1);
        x.way(12);
        x.person(11, 0);
        x.go(0, 4);
        for (int i = 0; i < 5; i++) {
            x.feed('g');
        }
        for (int i = 0; i < 6; i++) {
            x.mend(0, 3, i);
        }
        for (int i = 0; i < 7; i++) {
            x.body(0);
        }
        x.act(0, 1, 5);
        int[] want = {1, 3, 2, 4, 5, 6, 7, 2};
        for (int what = 0; what < 8; what++) {
            due.is("count(" + what + ")", x.count(what), want[what]);
        }
        due.is("count(8)", x.count(8), BAD);
        due.is("count(-1)", x.count(-1), BAD);
        due.is("count(MAX)", x.count(Integer.MAX_VALUE), BAD);
        due.is("count(MIN)", x.count(Integer.MIN_VALUE), BAD);
    }
}
