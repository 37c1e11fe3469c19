/** Promises 24 to 27 and 37 at their boundaries. */
public final class KeepingBoundsTest {
    private static final int BAD = -1, STATE = -5;
    private static final int MIN = Integer.MIN_VALUE, MAX = Integer.MAX_VALUE;
    private static final Due due = new Due();
    private static final Twins house = new Twins(due, House::mixed);

    public static void main(String[] args) {
        noImage();
        anImageOfNothing();
        whatAnImageKeeps();
        whatCameSinceTheImage();
        theLatestImage();
        imagesWhenTheDayEnds();
        nothingToUndo();
        undoingToTheFirst();
        nothingToDoAgain();
        doingAgainToTheLast();
        cutOffByAnother();
        notCutOff();
        fortyAreKept();
        fortyOfWhichSomeAreUndone();
        whatIsCounted();
        due.end();
    }

    /** "STATE: there is none". */
    private static void noImage() {
        new Twins(due, HatRank::new).leaves(STATE, "back");
        new Twins(due, KeepingBoundsTest::withoutAnImage).leaves(STATE, "back");
    }

    private static HatRank withoutAnImage() {
        HatRank x = House.town("12", 0, 0);
        x.person(50, 0);
        x.lay(1);
        x.go(0, 3);
        return x;
    }

    /** An image is one even if nothing is there: all came since, and NOW alone is laid back. */
    private static void anImageOfNothing() {
        Twins early = new Twins(due, () -> {
            HatRank x = new HatRank();
            x.image();
            x.place(0);
            x.place(0);
            Due.law(x, "12");
            x.person(50, 0);
            x.lay(1);
            x.go(0, 3);
            return x;
        });
        HatRank x = early.changes(0, "back");
        due.is("NOW", x.count(3), 0);
        due.is("HATS stay", x.of(0, 0), 4);
        due.is("LYING stays", x.of(0, 12), 1);
        due.is("LYING stays", x.of(1, 12), 1);
        due.is("LED stays", x.led(0), -2);
    }

    /** "AN IMAGE keeps HATS, PLACES of PEOPLE, LYING, NOW", and no more than these. */
    private static void whatAnImageKeeps() {
        HatRank x = house.changes(3, "back");
        int[] hats = {4, 6, 9, 2};
        int[] at = {0, 0, 1, 3};
        for (int p = 0; p < 4; p++) {
            due.is("HATS of " + p, x.of(p, 0), hats[p]);
            due.is("PLACE of " + p, x.of(p, 2), at[p]);
        }
        for (int place = 0; place < 5; place++) {
            due.is("LYING at " + place, x.of(place, 12), 0);
        }
        int[] counts = {5, 6, 5, 3, 3, 5, 8, 10};
        for (int what = 0; what < 8; what++) {
            due.is("count(" + what + ")", x.count(what), counts[what]);
        }
        due.is("LED stays", x.led(0), -2);
        due.is("BRIM stays", x.of(1, 1), 7);
        due.is("LEE stays", x.of(3, 10), 5);
        due.is("DOWN stays", x.of(1, 11), 6);
        due.is("BLOW stays", x.of(6, 20), 8);
        Twins laid = new Twins(due, () -> {
            HatRank y = House.mixed();
            y.back();
            return y;
        });
        laid.leaves(3, "back");
        laid.leaves(3, "image");
    }

    /** "(PEOPLE that came since stay as they are; LYING at PLACES that came since, too)". */
    private static void whatCameSinceTheImage() {
        Twins since = new Twins(due, () -> {
            HatRank x = House.mixed();
            x.lay(5);
            x.lay(4);
            x.lay(0);
            x.person(87, 5);
            x.move(4, 0);
            return x;
        });
        HatRank x = since.changes(3, "back");
        due.is("HATS of 4, who came since", x.of(4, 0), 1);
        due.is("PLACE of 4", x.of(4, 2), 0);
        due.is("HATS of 5, who came since", x.of(5, 0), 8);
        due.is("PLACE of 5", x.of(5, 2), 5);
        due.is("PLACE of 3, who was there", x.of(3, 2), 3);
        due.is("LYING at 5, which came since", x.of(5, 12), 2);
        due.is("LYING at 4, which was there", x.of(4, 12), 0);
        due.is("LYING at 0, which was there", x.of(0, 12), 0);
    }

    private static void theLatestImage() {
        HatRank x = house.changes(5, "image");
        House.calmHours(x, 3);
        x.move(0, 1);
        due.is("back", x.back(), 5);
        due.is("PLACE", x.of(0, 2), 0);
        due.is("HATS", x.of(0, 0), 2);
        x.go(0, 1);
        due.is("and back again", x.back(), 5);
    }

    private static void imagesWhenTheDayEnds() {
        Twins over = new Twins(due, () -> House.at(24));
        HatRank x = over.changes(24, "image");
        x.move(0, 1);
        due.is("back to NOW 24", x.back(), 24);
        due.is("PLACE", x.of(0, 2), 0);
        due.is("no hour is left", x.go(0, 1), STATE);
        HatRank y = over.changes(3, "back");
        due.is("hours are left again", y.go(0, 21), 0);
        due.is("no more than these", y.go(0, 1), STATE);
    }

    /** "UNDONE: how many may still be. STATE: none." */
    private static void nothingToUndo() {
        new Twins(due, HatRank::new).leaves(STATE, "undo");
        Twins all = new Twins(due, () -> changed(3, 3));
        all.leaves(STATE, "undo");
        Twins refused = new Twins(due, () -> {
            HatRank x = new HatRank();
            x.mend(0, 3, 10);
            x.mend(24, 3, 1);
            x.mend(0, 3, 3);
            return x;
        });
        refused.leaves(STATE, "undo");
        refused.leaves(STATE, "redo");
    }

    private static void undoingToTheFirst() {
        due.is("BLOW is what it was", house.changes(4, "undo").of(6, 20), 3);
        HatRank x = House.mixed();
        int[][] was = {{6, 20, 3}, {1, 1, 1}, {3, 10, 1}, {1, 11, 1}, {0, 11, 0}};
        for (int i = 0; i < 5; i++) {
            due.is("undo", x.undo(), 4 - i);
            due.is("what it was", x.of(was[i][0], was[i][1]), was[i][2]);
        }
        due.is("none", x.undo(), STATE);
        due.is("redo", x.redo(), 6);
    }

    /** "DONE AGAIN: how many may still be. STATE: none." */
    private static void nothingToDoAgain() {
        new Twins(due, HatRank::new).leaves(STATE, "redo");
        new Twins(due, () -> changed(3, 0)).leaves(STATE, "redo");
        Twins again = new Twins(due, () -> {
            HatRank x = changed(3, 1);
            x.redo();
            return x;
        });
        again.leaves(STATE, "redo");
    }

    private static void doingAgainToTheLast() {
        due.is("BLOW again", house.changes(1, "redo").of(7, 20), 9);
        HatRank x = House.mixed();
        due.is("redo", x.redo(), 1);
        due.is("LEE not yet", x.of(4, 10), 4);
        due.is("redo", x.redo(), 0);
        due.is("LEE again", x.of(4, 10), 0);
        due.is("none", x.redo(), STATE);
        due.is("changes", x.count(5), 7);
    }

    /** "(as long as no other came behind)". */
    private static void cutOffByAnother() {
        int[][] mends = {{0, 0, 3}, {0, 1, 3}, {0, 2, 3}, {0, 3, 9}, {7, 3, 9}, {4, 1, 0}};
        for (int[] m : mends) {
            Twins behind = new Twins(due, () -> {
                HatRank x = House.mixed();
                x.mend(m[0], m[1], m[2]);
                return x;
            });
            behind.leaves(STATE, "redo");
            behind.changes(5, "undo");
            behind.leaves(6, "count", 5);
        }
    }

    /** What is refused, stays as it was, or is no change of these kinds cuts off nothing. */
    private static void notCutOff() {
        Twins others = new Twins(due, () -> {
            HatRank x = House.mixed();
            x.mend(0, 3, 10);
            x.mend(0, 3, 3);
            x.mend(6, 2, 0);
            x.place(9);
            x.way(13);
            x.person(33, 0);
            x.move(0, 4);
            x.lay(0);
            x.image();
            x.go(3, 2);
            x.back();
            x.law();
            return x;
        });
        others.changes(1, "redo");
        others.changes(4, "undo");
    }

    /** Each to another BLOW than was there; then some are undone. */
    private static HatRank changed(int n, int undone) {
        HatRank x = new HatRank();
        for (int i = 0; i < n; i++) {
            x.mend(i % 24, 3, blow(i));
        }
        for (int i = 0; i < undone; i++) {
            x.undo();
        }
        return x;
    }

    private static int blow(int change) {
        return change < 24 ? 4 + change % 6 : change % 3;
    }

    /** "40 at most are kept". */
    private static void fortyAreKept() {
        for (int n : new int[] {1, 38, 39, 40, 41, 42, 48}) {
            int kept = Math.min(40, n);
            HatRank x = new Twins(due, () -> changed(n, 0)).changes(kept - 1, "undo");
            due.is("what it was", x.of((n - 1) % 24, 20), n <= 24 ? 3 : blow(n - 25));
            Twins all = new Twins(due, () -> changed(n, kept));
            all.leaves(STATE, "undo");
            all.leaves(0, "count", 5);
            for (int i = 0; i < 24; i++) {
                all.leaves(i < n - kept ? blow(i) : 3, "of", i, 20);
            }
            all.changes(kept - 1, "redo");
            due.is("count(5)", changed(n, 0).count(5), kept);
        }
    }

    /** Of what is undone none is kept once another came: there is room for it again. */
    private static void fortyOfWhichSomeAreUndone() {
        for (int undone = 0; undone <= 3; undone++) {
            HatRank x = changed(40, undone);
            due.is("mend", x.mend(0, 3, 9) >= 0 ? 1 : 0, 1);
            int kept = Math.min(40, 41 - undone);
            due.is("count(5)", x.count(5), kept);
            due.is("redo", x.redo(), STATE);
            for (int i = kept - 1; i >= 0; i--) {
                due.is("undo", x.undo(), i);
            }
            due.is("none", x.undo(), STATE);
            due.is("the first is kept, if there was room", x.of(0, 20), undone == 0 ? blow(0) : 3);
            for (int i = kept - 1; i >= 0; i--) {
                due.is("redo", x.redo(), i);
            }
            due.is("the latest again", x.of(0, 20), 9);
        }
    }

    /** "0 PEOPLE .. 7 bodies that ran". */
    private static void whatIsCounted() {
        int[] counts = {5, 6, 5, 5, 3, 5, 8, 10};
        for (int what = 0; what <= 7; what++) {
            house.leaves(counts[what], "count", what);
        }
        for (int what : new int[] {-1, 8, 9, MIN, MAX}) {
            house.leaves(BAD, "count", what);
        }
    }
}
