import java.util.function.Supplier;

/** Promises 1 to 7 at their boundaries: the last that is taken, the first that is refused, and what stands behind it. */
public final class TownBoundsTest {
    private static final int BAD = -1, FULL = -3, OTHER_KIND = -12;
    private static final int MIN = Integer.MIN_VALUE, MAX = Integer.MAX_VALUE;
    private static final Due due = new Due();
    private static final Twins house = new Twins(due, House::mixed);

    public static void main(String[] args) {
        theHouse();
        aNewObject();
        leesOfNewPlaces();
        sevenPlaces();
        waysJoinTwoPlaces();
        aWayAlready();
        twelveWays();
        hatsAndBrimsOfNewPeople();
        placesOfNewPeople();
        sixPeople();
        peopleByShelfAndNumber();
        peopleFromWhatIsNoRowOfBytes();
        rowsThatEnd();
        placesInARow();
        peopleThatAreNotAsTheyMayBe();
        peopleUntilFull();
        mendingBrims();
        mendingLees();
        mendingDowns();
        mendingBlows();
        mendingWhat();
        mendingToWhatStands();
        ofPeople();
        ofPlaces();
        ofHours();
        ofWhenTheDayEnds();
        due.end();
    }

    /** The other tests lean on what the house is said to be. */
    private static void theHouse() {
        HatRank x = House.mixed();
        int[][] people = {{2, 2, 0, 2, 12, -2}, {6, 7, 4, 1, 0, 1}, {9, 0, 1, 0, 0, 2}, {2, 5, 3, 3, 0, 3}, {1, 5, 4, 4, 0, -5}};
        for (int p = 0; p < people.length; p++) {
            for (int what = 0; what < 5; what++) {
                due.is("house: of(" + p + ", " + what + ")", x.of(p, what), people[p][what]);
            }
            due.is("house: led(" + p + ")", x.led(p), people[p][5]);
        }
        int[][] places = {{0, 1, 0, 3}, {2, 6, 2, 1}, {9, 2, 1, 0}, {5, 3, 0, 0}, {4, 4, 0, 0}, {3, 5, 1, 0}};
        for (int place = 0; place < places.length; place++) {
            for (int what = 0; what < 4; what++) {
                due.is("house: of(" + place + ", " + (10 + what) + ")", x.of(place, 10 + what), places[place][what]);
            }
        }
        int[] counts = {5, 6, 5, 5, 3, 5, 8, 10};
        for (int what = 0; what < counts.length; what++) {
            due.is("house: count(" + what + ")", x.count(what), counts[what]);
        }
    }

    /** "No places, nobody"; "NOW is 0 at first", "3 at first", shelves hold "nothing (at first)". */
    private static void aNewObject() {
        Twins fresh = new Twins(due, HatRank::new);
        for (int what = 0; what <= 7; what++) {
            fresh.leaves(0, "count", what);
        }
        fresh.leaves(BAD, "of", 0, 0);
        fresh.leaves(BAD, "of", 0, 10);
        for (int hour = 0; hour < 24; hour++) {
            fresh.leaves(3, "of", hour, 20);
        }
        for (int shelf = 0; shelf < 6; shelf++) {
            fresh.leaves(-11, "taken", shelf, 0);
        }
        fresh.leaves(BAD, "person", 0, 0);
        fresh.leaves(BAD, "way", 1);
        fresh.leaves(BAD, "lay", 0);
        fresh.leaves(BAD, "mend", 0, 0, 0);
        fresh.leaves(BAD, "mend", 0, 1, 0);
        fresh.leaves(BAD, "mend", 0, 2, 1);
        fresh.changes(3, "mend", 0, 3, 0);
    }

    /** "LEE (0 .. 9)". */
    private static void leesOfNewPlaces() {
        due.is("LEE 0", house.changes(6, "place", 0).of(6, 10), 0);
        due.is("LEE 9", house.changes(6, "place", 9).of(6, 10), 9);
        for (int lee : new int[] {-1, 10, MIN, MAX}) {
            house.leaves(BAD, "place", lee);
        }
    }

    private static HatRank places(int n) {
        HatRank x = new HatRank();
        for (int i = 0; i < n; i++) {
            x.place(i);
        }
        return x;
    }

    /** "PLACES 0 .. 6", "FULL: 7"; DOWN is "itself at first", LYING "0 at first". */
    private static void sevenPlaces() {
        for (int n = 0; n < 7; n++) {
            int already = n;
            HatRank x = new Twins(due, () -> places(already)).changes(n, "place", 8);
            due.is("LEE of " + n, x.of(n, 10), 8);
            due.is("DOWN of " + n, x.of(n, 11), n);
            due.is("LYING at " + n, x.of(n, 12), 0);
            due.is("PLACES", x.count(1), n + 1);
        }
        Twins seven = new Twins(due, () -> places(7));
        seven.leaves(FULL, "place", 0);
        seven.leaves(FULL, "place", 9);
        seven.leaves(BAD, "place", -1);
        seven.leaves(BAD, "place", 10);
    }

    /** "10 times the one PLACE and the other": both are there, and not one and the same. */
    private static void waysJoinTwoPlaces() {
        for (int ab : new int[] {2, 20, 5, 50, 45, 54, 31}) {
            HatRank x = house.changes(6, "way", ab);
            due.is("WAYS", x.count(2), 6);
            due.is("the way is there", x.way(ab), BAD);
        }
        for (int ab : new int[] {6, 60, 56, 65, 7, 70, 9, 90, 59, 95, 105, 150, 501, MAX}) {
            house.leaves(BAD, "way", ab);
        }
        for (int ab : new int[] {-1, -2, -5, -10, -20, -45, MIN, MIN + 1}) {
            house.leaves(BAD, "way", ab);
        }
        for (int place = 0; place <= 6; place++) {
            house.leaves(BAD, "way", 11 * place);
        }
        Twins one = new Twins(due, () -> places(1));
        one.leaves(BAD, "way", 1);
        one.leaves(BAD, "way", 10);
        one.leaves(BAD, "way", 0);
        Twins seven = new Twins(due, () -> places(7));
        seven.changes(1, "way", 6);
        seven.changes(1, "way", 60);
        seven.changes(1, "way", 56);
        seven.leaves(BAD, "way", 7);
        seven.leaves(BAD, "way", 67);
    }

    /** "BAD (.. or a WAY already)", told from either end. */
    private static void aWayAlready() {
        for (int ab : new int[] {1, 10, 12, 21, 23, 32, 30, 3, 4, 40}) {
            house.leaves(BAD, "way", ab);
        }
    }

    private static HatRank ways(int n) {
        int[] ab = {1, 20, 3, 40, 5, 60, 12, 31, 14, 51, 16, 32};
        HatRank x = places(7);
        x.person(10, 2);
        for (int i = 0; i < n; i++) {
            x.way(ab[i]);
        }
        return x;
    }

    /** "WAYS: .. (12 at most)", "FULL: 12". */
    private static void twelveWays() {
        due.is("the twelfth can be gone", new Twins(due, () -> ways(11)).changes(12, "way", 42).move(0, 4), 4);
        Twins twelve = new Twins(due, () -> ways(12));
        for (int ab : new int[] {42, 24, 56, 65}) {
            twelve.leaves(FULL, "way", ab);
        }
        for (int ab : new int[] {1, 10, 32, 23, 22, 66, 7, 70, -1}) {
            twelve.leaves(BAD, "way", ab);
        }
    }

    private static void hatsBrimPlace(String what, HatRank x, int p, int... hatsBrimPlace) {
        for (int i = 0; i < 3; i++) {
            due.is(what + ": of(" + p + ", " + i + ")", x.of(p, i), hatsBrimPlace[i]);
        }
    }

    /** "HATS (0 .. 9), BRIM (0 .. 9)", "hb: 10 HATS and BRIM". */
    private static void hatsAndBrimsOfNewPeople() {
        for (int hb : new int[] {0, 1, 9, 10, 90, 98, 99}) {
            HatRank x = house.changes(5, "person", hb, 3);
            hatsBrimPlace("hb " + hb, x, 5, hb / 10, hb % 10, 3);
            due.is("came since the latest hour", x.led(5), -5);
        }
        for (int hb : new int[] {-1, -10, 100, 109, 990, MIN, MAX}) {
            house.leaves(BAD, "person", hb, 3);
        }
    }

    private static void placesOfNewPeople() {
        hatsBrimPlace("at the first place", house.changes(5, "person", 47, 0), 5, 4, 7, 0);
        hatsBrimPlace("at the last place", house.changes(5, "person", 47, 5), 5, 4, 7, 5);
        for (int place : new int[] {-1, 6, 7, MIN, MAX}) {
            house.leaves(BAD, "person", 47, place);
        }
        Twins nowhere = new Twins(due, HatRank::new);
        nowhere.leaves(BAD, "person", 47, 0);
        new Twins(due, () -> places(1)).changes(0, "person", 47, 0);
    }

    private static HatRank people(int n) {
        HatRank x = places(2);
        for (int p = 0; p < n; p++) {
            x.person(11 * p, p % 2);
        }
        return x;
    }

    /** "PEOPLE 0 .. 5", "FULL: 6". */
    private static void sixPeople() {
        for (int n = 0; n < 6; n++) {
            int already = n;
            HatRank x = new Twins(due, () -> people(already)).changes(n, "person", 83, 1);
            hatsBrimPlace("person " + n, x, n, 8, 3, 1);
            due.is("PEOPLE", x.count(0), n + 1);
        }
        Twins six = new Twins(due, () -> people(6));
        six.leaves(FULL, "person", 0, 0);
        six.leaves(FULL, "person", 99, 1);
        six.leaves(BAD, "person", -1, 0);
        six.leaves(BAD, "person", 100, 0);
        six.leaves(BAD, "person", 99, 2);
        six.leaves(BAD, "person", 99, -1);
    }

    private static Supplier<HatRank> withRow(int people, int shelf, long... row) {
        return () -> {
            HatRank x = people(people);
            Due.row(x, shelf, 0, row);
            return x;
        };
    }

    /** "n (1 .. 6) of them", and a SHELF 0 .. 5. */
    private static void peopleByShelfAndNumber() {
        long[] six = {1, 2, 0, 3, 4, 1, 5, 6, 0, 7, 8, 1, 9, 0, 0, 2, 1, 1, 9, 9, 1};
        for (int shelf : new int[] {0, 5}) {
            Twins rowed = new Twins(due, withRow(0, shelf, six));
            HatRank one = rowed.changes(1, "people", shelf, 0, 1);
            hatsBrimPlace("one of them", one, 0, 1, 2, 0);
            due.is("no more of them", one.count(0), 1);
            HatRank all = rowed.changes(6, "people", shelf, 0, 6);
            for (int p = 0; p < 6; p++) {
                hatsBrimPlace("all of them", all, p, (int) six[3 * p], (int) six[3 * p + 1], (int) six[3 * p + 2]);
            }
            for (int n : new int[] {0, 7, -1, MIN, MAX}) {
                rowed.leaves(BAD, "people", shelf, 0, n);
            }
        }
        for (int shelf : new int[] {-1, 6, MIN, MAX}) {
            house.leaves(BAD, "people", shelf, 0, 1);
        }
    }

    /** "-12 (no ROW of bytes; a SHELF that holds nothing is missing)". */
    private static void peopleFromWhatIsNoRowOfBytes() {
        for (int shelf = 1; shelf <= 4; shelf++) {
            house.leaves(OTHER_KIND, "people", shelf, 0, 1);
            house.leaves(OTHER_KIND, "people", shelf, -1, 6);
            house.leaves(BAD, "people", shelf, 0, 0);
            house.leaves(BAD, "people", shelf, 0, 7);
        }
        Twins booleans = new Twins(due, () -> {
            HatRank x = House.mixed();
            x.row(1, 4, 3);
            return x;
        });
        booleans.leaves(OTHER_KIND, "people", 1, 0, 1);
        for (int i : new int[] {0, -1, 60, MIN, MAX}) {
            house.leaves(0, "people", 5, i, 1);
            house.leaves(0, "people", 5, i, 6);
        }
        house.leaves(BAD, "people", 5, 0, 0);
        house.leaves(BAD, "people", 5, 0, 7);
    }

    /** "it ends where the row .. ends (within a three, too)". */
    private static void rowsThatEnd() {
        long[] three = {4, 3, 1, 2, 5, 0, 8, 8, 1};
        for (int length = 0; length <= 9; length++) {
            long[] row = java.util.Arrays.copyOf(three, length);
            Twins rowed = new Twins(due, withRow(1, 2, row));
            int whole = length / 3;
            for (int n = 1; n <= 6; n++) {
                int came = Math.min(n, whole);
                if (came == 0) {
                    rowed.leaves(0, "people", 2, 0, n);
                } else {
                    HatRank x = rowed.changes(came, "people", 2, 0, n);
                    due.is("PEOPLE", x.count(0), 1 + came);
                    int last = 3 * came - 3;
                    hatsBrimPlace("the last", x, came, (int) three[last], (int) three[last + 1], (int) three[last + 2]);
                }
            }
        }
    }

    /** "from place i on": the last three of a row begins three ahead of its end; ahead of 0 there is none. */
    private static void placesInARow() {
        Twins rowed = new Twins(due, withRow(0, 0, 0, 0, 0, 0, 1, 6, 1, 0));
        hatsBrimPlace("from 0", rowed.changes(1, "people", 0, 0, 1), 0, 0, 0, 0);
        hatsBrimPlace("from 4", rowed.changes(1, "people", 0, 4, 2), 0, 1, 6, 1);
        hatsBrimPlace("from 5, the last three", rowed.changes(1, "people", 0, 5, 6), 0, 6, 1, 0);
        for (int i : new int[] {6, 7, 8, 9, 60, MAX, MAX - 1, MAX - 2, MAX - 14, -1, -2, -3, MIN, MIN + 2}) {
            rowed.leaves(0, "people", 0, i, 1);
            rowed.leaves(0, "people", 0, i, 6);
        }
        Twins longest = new Twins(due, () -> {
            HatRank x = people(0);
            x.row(0, 0, 60);
            return x;
        });
        longest.changes(1, "people", 0, 57, 6);
        longest.leaves(0, "people", 0, 58, 6);
    }

    /** "it ends where .. one is not as it may be ..: those ahead came". */
    private static void peopleThatAreNotAsTheyMayBe() {
        long[][] good = {{0, 0, 0}, {9, 9, 1}, {256, 512, 1 - 256}};
        for (long[] g : good) {
            Twins rowed = new Twins(due, withRow(1, 3, 5, 5, 1, g[0], g[1], g[2], 4, 4, 0));
            rowed.changes(3, "people", 3, 0, 3);
        }
        long[][] bad = {{10, 0, 0}, {-1, 0, 0}, {127, 0, 0}, {-128, 0, 0}, {0, 10, 0}, {1, 12, 0}, {0, -1, 0}, {1, -1, 0},
            {0, 0, 2}, {0, 0, -1}, {0, 0, 6}, {0, 0, -128}};
        for (long[] b : bad) {
            Twins rowed = new Twins(due, withRow(1, 3, 5, 6, 1, b[0], b[1], b[2], 4, 4, 0));
            HatRank x = rowed.changes(1, "people", 3, 0, 3);
            due.is("those behind did not come", x.count(0), 2);
            hatsBrimPlace("those ahead came", x, 1, 5, 6, 1);
            rowed.leaves(0, "people", 3, 3, 2);
            rowed.changes(1, "people", 3, 6, 2);
        }
    }

    /** "it ends where .. PEOPLE are FULL: those ahead came". */
    private static void peopleUntilFull() {
        for (int already = 0; already <= 6; already++) {
            Twins rowed = new Twins(due, withRow(already, 4, 1, 2, 0, 3, 4, 1, 5, 6, 0, 7, 8, 1, 9, 0, 0, 2, 1, 1));
            int room = 6 - already;
            for (int n = 1; n <= 6; n++) {
                if (room == 0) {
                    rowed.leaves(0, "people", 4, 0, n);
                } else {
                    HatRank x = rowed.changes(Math.min(n, room), "people", 4, 0, n);
                    due.is("PEOPLE", x.count(0), already + Math.min(n, room));
                }
            }
        }
    }

    /** BRIM 0 .. 9 of a PERSON. */
    private static void mendingBrims() {
        due.is("BRIM 9", house.changes(2, "mend", 0, 0, 9).of(0, 1), 9);
        due.is("BRIM 0", house.changes(5, "mend", 4, 0, 0).of(4, 1), 0);
        for (int v : new int[] {-1, 10, MIN, MAX}) {
            house.leaves(BAD, "mend", 0, 0, v);
        }
        for (int person : new int[] {-1, 5, 6, MIN, MAX}) {
            house.leaves(BAD, "mend", person, 0, 1);
        }
    }

    /** LEE 0 .. 9 of a PLACE. */
    private static void mendingLees() {
        due.is("LEE 9", house.changes(0, "mend", 0, 1, 9).of(0, 10), 9);
        due.is("LEE 0", house.changes(3, "mend", 5, 1, 0).of(5, 10), 0);
        for (int v : new int[] {-1, 10, MIN, MAX}) {
            house.leaves(BAD, "mend", 0, 1, v);
        }
        for (int place : new int[] {-1, 6, 7, MIN, MAX}) {
            house.leaves(BAD, "mend", place, 1, 1);
        }
    }

    /** "DOWN (2; 0 .. 6) of a PLACE": there or not, itself or not. */
    private static void mendingDowns() {
        for (int v = 0; v <= 6; v++) {
            if (v != 5) {
                due.is("DOWN " + v, house.changes(5, "mend", 5, 2, v).of(5, 11), v);
            }
            if (v != 1) {
                due.is("DOWN " + v, house.changes(1, "mend", 0, 2, v).of(0, 11), v);
            }
        }
        for (int v : new int[] {-1, 7, 9, 10, MIN, MAX}) {
            house.leaves(BAD, "mend", 0, 2, v);
        }
        for (int place : new int[] {-1, 6, 7, MIN, MAX}) {
            house.leaves(BAD, "mend", place, 2, 1);
        }
    }

    /** "HOURS 0 .. 23 .. each has a BLOW (0 .. 9 ..)"; those ahead of NOW have one, too. */
    private static void mendingBlows() {
        due.is("BLOW 0", house.changes(3, "mend", 0, 3, 0).of(0, 20), 0);
        due.is("BLOW 9", house.changes(3, "mend", 23, 3, 9).of(23, 20), 9);
        for (int v : new int[] {-1, 10, MIN, MAX}) {
            house.leaves(BAD, "mend", 0, 3, v);
        }
        for (int hour : new int[] {-1, 24, 25, MIN, MAX}) {
            house.leaves(BAD, "mend", hour, 3, 1);
        }
    }

    private static void mendingWhat() {
        for (int what : new int[] {-1, 4, 5, 10, MIN, MAX}) {
            house.leaves(BAD, "mend", 0, what, 1);
        }
    }

    /** What becomes what it was has not changed: there is nothing to undo, nothing is cut off. */
    private static void mendingToWhatStands() {
        house.leaves(7, "mend", 1, 0, 7);
        house.leaves(5, "mend", 3, 1, 5);
        house.leaves(6, "mend", 1, 2, 6);
        house.leaves(2, "mend", 2, 2, 2);
        house.leaves(8, "mend", 6, 3, 8);
        house.leaves(3, "mend", 7, 3, 3);
    }

    private static void ofPeople() {
        int[][] of = {{2, 2, 0, 2, 12}, {1, 5, 4, 4, 0}};
        for (int what = 0; what <= 4; what++) {
            house.leaves(of[0][what], "of", 0, what);
            house.leaves(of[1][what], "of", 4, what);
            for (int person : new int[] {-1, 5, 6, MIN, MAX}) {
                house.leaves(BAD, "of", person, what);
            }
        }
        for (int what : new int[] {-1, 5, 6, 9, MIN}) {
            house.leaves(BAD, "of", 0, what);
        }
    }

    private static void ofPlaces() {
        int[][] of = {{0, 1, 0, 3}, {3, 5, 1, 0}};
        for (int what = 10; what <= 13; what++) {
            house.leaves(of[0][what - 10], "of", 0, what);
            house.leaves(of[1][what - 10], "of", 5, what);
            for (int place : new int[] {-1, 6, 7, MIN, MAX}) {
                house.leaves(BAD, "of", place, what);
            }
        }
        for (int what : new int[] {9, 14, 15, 19}) {
            house.leaves(BAD, "of", 0, what);
        }
    }

    private static void ofHours() {
        house.leaves(3, "of", 0, 20);
        house.leaves(8, "of", 6, 20);
        house.leaves(3, "of", 23, 20);
        for (int hour : new int[] {-1, 24, 25, MIN, MAX}) {
            house.leaves(BAD, "of", hour, 20);
        }
        for (int what : new int[] {19, 21, 22, 30, MAX}) {
            house.leaves(BAD, "of", 0, what);
        }
    }

    private static HatRank houseAt(int now) {
        HatRank x = House.at(now);
        Due.law(x, "h-20");
        return x;
    }

    /** "THE LAW's number NOW (NOW 24: BAD)", "GUST NOW (NOW 24: BAD)"; all else is told then, too. */
    private static void ofWhenTheDayEnds() {
        Twins last = new Twins(due, () -> houseAt(23));
        last.leaves(3, "of", 0, 4);
        last.leaves(3, "of", 0, 13);
        last.leaves(1, "of", 1, 13);
        Twins over = new Twins(due, () -> houseAt(24));
        for (int p = 0; p < 5; p++) {
            over.leaves(BAD, "of", p, 4);
        }
        for (int place = 0; place < 6; place++) {
            over.leaves(BAD, "of", place, 13);
        }
        over.leaves(2, "of", 0, 0);
        over.leaves(2, "of", 0, 1);
        over.leaves(0, "of", 0, 2);
        over.leaves(2, "of", 0, 3);
        over.leaves(0, "of", 0, 10);
        over.leaves(1, "of", 0, 11);
        over.leaves(2, "of", 1, 12);
        over.leaves(3, "of", 23, 20);
    }
}
