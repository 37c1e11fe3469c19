/** Promises 1 to 7: a new object, place, way, person, people, mend, of. */
public final class PlacesPeopleTest {
    private static final int BAD = -1, FULL = -3;
    private static final Due due = new Due();

    public static void main(String[] args) {
        aNewObject();
        places();
        ways();
        persons();
        peopleFromRows();
        peopleThatEndEarly();
        mends();
        ofWhat();
        ranks();
        due.end();
    }

    private static void aNewObject() {
        HatRank x = new HatRank();
        for (int what = 0; what <= 7; what++) {
            due.is("new: count(" + what + ")", x.count(what), 0);
        }
        due.is("new: of(0, 0)", x.of(0, 0), BAD);
        due.is("new: of(0, 10)", x.of(0, 10), BAD);
        for (int hour = 0; hour < 24; hour++) {
            due.is("new: of(" + hour + ", 20)", x.of(hour, 20), 3);
        }
        due.is("new: back()", x.back(), -5);
        due.is("new: commands()", x.commands(), -5);
        for (int shelf = 0; shelf < 6; shelf++) {
            due.is("new: put(" + shelf + ", 0, 0)", x.put(shelf, 0, 0), -11);
        }
    }

    private static void places() {
        HatRank x = new HatRank();
        due.is("place(-1)", x.place(-1), BAD);
        due.is("place(10)", x.place(10), BAD);
        due.is("place(MIN)", x.place(Integer.MIN_VALUE), BAD);
        due.is("place(MAX)", x.place(Integer.MAX_VALUE), BAD);
        for (int place = 0; place < 7; place++) {
            due.is("place", x.place(place == 6 ? 9 : place), place);
            due.is("LEE", x.of(place, 10), place == 6 ? 9 : place);
            due.is("DOWN", x.of(place, 11), place);
            due.is("LYING", x.of(place, 12), 0);
        }
        due.is("an eighth place", x.place(0), FULL);
        due.is("an eighth place that is bad", x.place(10), BAD);
        due.is("count(1)", x.count(1), 7);
    }

    private static void ways() {
        HatRank x = new HatRank();
        due.is("way(1) without places", x.way(1), BAD);
        for (int place = 0; place < 6; place++) {
            x.place(0);
        }
        due.is("way(6)", x.way(6), BAD);
        due.is("way(60)", x.way(60), BAD);
        due.is("way(11)", x.way(11), BAD);
        due.is("way(-12)", x.way(-12), BAD);
        due.is("way(MIN)", x.way(Integer.MIN_VALUE), BAD);
        due.is("way(MAX)", x.way(Integer.MAX_VALUE), BAD);
        due.is("way(100)", x.way(100), BAD);
        int ways = 0;
        for (int ab : new int[] {1, 20, 3, 4, 5, 12, 13, 14, 15, 23, 24, 25}) {
            ways++;
            due.is("way(" + ab + ")", x.way(ab), ways);
        }
        due.is("a thirteenth way", x.way(34), FULL);
        due.is("a thirteenth that is one already", x.way(52), BAD);
        due.is("a thirteenth to itself", x.way(33), BAD);
        due.is("count(2)", x.count(2), 12);
        x.place(0);
        x.person(10, 3);
        due.is("no way came by the refused one", x.move(0, 4), -2);
    }

    private static void persons() {
        HatRank x = new HatRank();
        due.is("person without places", x.person(11, 0), BAD);
        x.place(0);
        x.place(0);
        due.is("person(100, 0)", x.person(100, 0), BAD);
        due.is("person(-1, 0)", x.person(-1, 0), BAD);
        due.is("person(11, 2)", x.person(11, 2), BAD);
        due.is("person(11, -1)", x.person(11, -1), BAD);
        due.is("person(MAX, 0)", x.person(Integer.MAX_VALUE, 0), BAD);
        due.is("person(11, MAX)", x.person(11, Integer.MAX_VALUE), BAD);
        due.is("count(0)", x.count(0), 0);
        int[] hb = {0, 9, 90, 99, 57, 75};
        for (int p = 0; p < 6; p++) {
            due.is("person", x.person(hb[p], p % 2), p);
            due.is("HATS", x.of(p, 0), hb[p] / 10);
            due.is("BRIM", x.of(p, 1), hb[p] % 10);
            due.is("PLACE", x.of(p, 2), p % 2);
        }
        due.is("a seventh person", x.person(11, 0), FULL);
        due.is("a seventh that is bad", x.person(11, 2), BAD);
        due.is("count(0)", x.count(0), 6);
    }

    private static void peopleFromRows() {
        HatRank x = new HatRank();
        x.place(0);
        x.place(0);
        Due.row(x, 2, 0, 7, 3, 4, 1, 9, 0, 0, 2, 2, 0);
        due.is("people(2, 1, 2)", x.people(2, 1, 2), 2);
        due.is("HATS of the first", x.of(0, 0), 3);
        due.is("BRIM of the first", x.of(0, 1), 4);
        due.is("PLACE of the first", x.of(0, 2), 1);
        due.is("HATS of the second", x.of(1, 0), 9);
        due.is("BRIM of the second", x.of(1, 1), 0);
        due.is("PLACE of the second", x.of(1, 2), 0);
        due.is("fewer than there are", x.people(2, 1, 1), 1);
        due.is("count(0)", x.count(0), 3);
        due.is("LED of one from a row", x.led(2), -5);
        due.is("people(6, 0, 1)", x.people(6, 0, 1), BAD);
        due.is("people(-1, 0, 1)", x.people(-1, 0, 1), BAD);
        due.is("people(2, 1, 0)", x.people(2, 1, 0), BAD);
        due.is("people(2, 1, 7)", x.people(2, 1, 7), BAD);
        due.is("BAD ahead of -12", x.people(3, 0, 7), BAD);
        x.row(3, 1, 6);
        due.is("a row of shorts", x.people(3, 0, 1), -12);
        x.row(3, 4, 6);
        due.is("a row of booleans", x.people(3, 0, 1), -12);
        x.body(0);
        x.keep(3, 0);
        due.is("a body", x.people(3, 0, 1), -12);
        due.is("count(0) still", x.count(0), 3);
    }

    private static void peopleThatEndEarly() {
        HatRank x = new HatRank();
        x.place(0);
        due.is("the row is missing", x.people(0, 0, 3), 0);
        Due.row(x, 0, 0, 1, 1, 0, 2, 2, 0, 3, 3);
        due.is("it ends within a three", x.people(0, 0, 3), 2);
        due.is("it ends at once", x.people(0, 6, 1), 0);
        due.is("from its end", x.people(0, 8, 1), 0);
        due.is("from far behind its end", x.people(0, Integer.MAX_VALUE, 6), 0);
        due.is("from ahead of it", x.people(0, -1, 1), 0);
        due.is("from far ahead of it", x.people(0, Integer.MIN_VALUE, 6), 0);
        due.is("count(0)", x.count(0), 2);
        Due.row(x, 0, 0, 4, 4, 0, 5, 5, 1, 6, 6, 0);
        due.is("a place that is not there", x.people(0, 0, 3), 1);
        due.is("ten hats", row(x, 10, 0, 0), 0);
        due.is("hats below 0", row(x, -1, 0, 0), 0);
        due.is("a brim of ten", row(x, 0, 10, 0), 0);
        due.is("a brim below 0", row(x, 0, -1, 0), 0);
        due.is("a place below 0", row(x, 0, 0, -1), 0);
        due.is("bytes wrap", row(x, 256 + 7, 512 + 8, 256), 1);
        due.is("HATS that wrapped", x.of(3, 0), 7);
        due.is("count(0)", x.count(0), 4);
        Due.row(x, 0, 0, 1, 1, 0, 2, 2, 0, 3, 3, 0);
        due.is("PEOPLE become FULL", x.people(0, 0, 3), 2);
        due.is("PEOPLE are FULL", x.people(0, 0, 3), 0);
        due.is("count(0)", x.count(0), 6);
    }

    private static int row(HatRank x, int hats, int brim, int place) {
        Due.row(x, 5, 0, hats, brim, place);
        return x.people(5, 0, 1);
    }

    private static void mends() {
        HatRank x = new HatRank();
        x.place(4);
        x.place(5);
        x.person(36, 0);
        due.is("BRIM", x.mend(0, 0, 2), 6);
        due.is("BRIM again", x.mend(0, 0, 9), 2);
        due.is("LEE", x.mend(1, 1, 0), 5);
        due.is("DOWN there", x.mend(1, 2, 0), 1);
        due.is("DOWN not there", x.mend(1, 2, 6), 0);
        due.is("BLOW", x.mend(23, 3, 0), 3);
        due.is("of BRIM", x.of(0, 1), 9);
        due.is("of LEE", x.of(1, 10), 0);
        due.is("of DOWN", x.of(1, 11), 6);
        due.is("of BLOW", x.of(23, 20), 0);
        due.is("the other LEE", x.of(0, 10), 4);
        due.is("the other DOWN", x.of(0, 11), 0);
        int changes = x.count(5);
        due.is("count(5)", changes, 6);
        int[][] bad = {{1, 0, 0}, {-1, 0, 0}, {0, 0, 10}, {0, 0, -1}, {2, 1, 0}, {-1, 1, 0}, {0, 1, 10}, {0, 1, -1},
            {2, 2, 0}, {0, 2, 7}, {0, 2, -1}, {24, 3, 0}, {-1, 3, 0}, {0, 3, 10}, {0, 3, -1}, {0, 4, 0}, {0, -1, 0},
            {Integer.MAX_VALUE, 0, 0}, {0, Integer.MAX_VALUE, 0}, {0, Integer.MIN_VALUE, 0}, {0, 3, Integer.MAX_VALUE}};
        for (int[] b : bad) {
            due.is("mend(" + b[0] + ", " + b[1] + ", " + b[2] + ")", x.mend(b[0], b[1], b[2]), BAD);
        }
        due.is("count(5) still", x.count(5), 6);
    }

    private static void ofWhat() {
        HatRank x = new HatRank();
        x.place(1);
        x.place(9);
        x.mend(0, 2, 5);
        x.mend(0, 3, 8);
        x.person(42, 0);
        x.person(11, 0);
        x.lay(0);
        due.is("LAW's number", x.of(0, 4), 7 + 4 - 2);
        due.is("GUST", x.of(0, 13), 7);
        due.is("GUST in the lee", x.of(1, 13), 0);
        due.is("LYING", x.of(0, 12), 1);
        due.is("DOWN", x.of(0, 11), 5);
        x.mend(1, 0, 0);
        due.is("a number within 0 .. 12", x.of(0, 4), 9);
        x.mend(0, 1, 0);
        x.mend(0, 0, 0);
        due.is("held to 12", x.of(0, 4), 12);
        for (int what : new int[] {-1, 5, 9, 14, 19, 21, 30, Integer.MIN_VALUE, Integer.MAX_VALUE}) {
            due.is("of(0, " + what + ")", x.of(0, what), BAD);
        }
        for (int what : new int[] {0, 4, 10, 13, 20}) {
            due.is("of(-1, " + what + ")", x.of(-1, what), BAD);
            due.is("of(24, " + what + ")", x.of(24, what), BAD);
            due.is("of(MAX, " + what + ")", x.of(Integer.MAX_VALUE, what), BAD);
        }
        due.is("of(2, 0)", x.of(2, 0), BAD);
        due.is("of(2, 10)", x.of(2, 10), BAD);
        due.is("of(23, 20)", x.of(23, 20), 3);
        x.go(1, 24);
        due.is("LAW's number in NOW 24", x.of(0, 4), BAD);
        due.is("GUST in NOW 24", x.of(0, 13), BAD);
        due.is("BRIM in NOW 24", x.of(0, 1), 0);
        due.is("LEE in NOW 24", x.of(0, 10), 0);
    }

    private static void ranks() {
        HatRank x = new HatRank();
        x.place(0);
        int[] hats = {3, 5, 3, 0, 9, 5};
        int[] rank = {3, 1, 4, 5, 0, 2};
        for (int h : hats) {
            x.person(h * 10, 0);
        }
        for (int p = 0; p < 6; p++) {
            due.is("RANK of " + p, x.of(p, 3), rank[p]);
        }
        due.is("commands()", x.commands(), 4);
    }
}
