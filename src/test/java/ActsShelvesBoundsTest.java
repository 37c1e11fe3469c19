import java.util.Arrays;

/** Promises 28 to 36 at their boundaries. */
public final class ActsShelvesBoundsTest {
    private static final int BAD = -1, FULL = -3;
    private static final int NOTHING_THERE = -11, OTHER_KIND = -12, NO_SUCH_PLACE = -13, SIZE_BELOW_0 = -14;
    private static final long NO_VALUE = Long.MIN_VALUE;
    private static final int MIN = Integer.MIN_VALUE, MAX = Integer.MAX_VALUE;
    private static final int[] NO_SHELF = {-1, 6, 7, MIN, MAX};
    private static final Due due = new Due();
    private static final Twins house = new Twins(due, House::mixed);
    private static final Twins fresh = new Twins(due, HatRank::new);

    public static void main(String[] args) {
        kindsOfBodies();
        fiftyBodies();
        bodiesThatAct();
        actsOfBodies();
        actsThatWrap();
        placesInTheTrace();
        tracesThatEnd();
        keepingOnShelves();
        keepingBodies();
        rowsOnShelves();
        sortsOfRows();
        sixtyElements();
        aNewRowIsEmpty();
        puttingOnShelves();
        placesToPut();
        lowestBits();
        elementsThatAreNotThere();
        shiftingShelves();
        shiftingUnlikeSorts();
        shiftingPlaces();
        shiftingNone();
        shiftingOverItself();
        takenForKinds();
        takenFromWhatIsNoBody();
        due.end();
    }

    /** "A BODY of a KIND (0 .. 7)". */
    private static void kindsOfBodies() {
        for (int kind = 0; kind <= 7; kind++) {
            HatRank x = house.changes(8, "body", kind);
            x.keep(0, 8);
            due.is("its KIND", x.taken(0, kind), kind);
        }
        for (int kind : new int[] {-1, 8, 9, MIN, MAX}) {
            house.leaves(BAD, "body", kind);
        }
    }

    private static HatRank bodies(int n) {
        HatRank x = new HatRank();
        for (int i = 0; i < n; i++) {
            x.body(i % 8);
        }
        return x;
    }

    /** "BODIES 0 .. 49". */
    private static void fiftyBodies() {
        fresh.changes(0, "body", 0);
        new Twins(due, () -> bodies(48)).changes(48, "body", 0);
        HatRank x = new Twins(due, () -> bodies(49)).changes(49, "body", 3);
        due.is("BODIES", x.count(6), 50);
        due.is("the last one falls", x.act(49, 1, 5), -((5 + 1 + 49) * 2));
        Twins full = new Twins(due, () -> bodies(50));
        for (int kind = 0; kind <= 7; kind++) {
            full.leaves(FULL, "body", kind);
        }
        full.leaves(BAD, "body", -1);
        full.leaves(BAD, "body", 8);
    }

    private static void noTraceThen(HatRank x) {
        due.is("no TRACE: count(7)", x.count(7), 0);
        due.is("no TRACE: trace(0)", x.trace(0), BAD);
        due.is("no TRACE: trace(9)", x.trace(9), BAD);
        due.is("BODIES", x.count(6), 8);
    }

    /** "0, and no TRACE then: no such BODY". */
    private static void bodiesThatAct() {
        due.is("the first", house.changes(9, "act", 0, 0, 9).trace(0), 1);
        due.is("the last", house.changes((9 + 7) * 2 - 1, "act", 7, 0, 9).trace(0), 81);
        for (int body : new int[] {-1, 8, 9, 49, 50, MIN, MAX}) {
            noTraceThen(house.changes(0, "act", body, 0, 9));
            noTraceThen(house.changes(0, "act", body, 3, 9));
        }
        fresh.leaves(0, "act", 0, 0, 9);
        new Twins(due, () -> bodies(50)).changes(1 + 49 + 3, "act", 49, 0, 1);
        new Twins(due, () -> bodies(50)).leaves(0, "act", 50, 0, 1);
    }

    /** "An ACT (0 .. 3)", "no such .. ACT". */
    private static void actsOfBodies() {
        int[] answers = {9, 18, 9, 17};
        int[] first = {1, 10, 11, 2};
        for (int act = 0; act <= 3; act++) {
            due.is("its first body", house.changes(answers[act], "act", 0, act, 9).trace(0), first[act]);
        }
        for (int act : new int[] {-1, 4, 5, MIN, MAX}) {
            noTraceThen(house.changes(0, "act", 0, act, 9));
            noTraceThen(house.changes(0, "act", 7, act, 9));
            noTraceThen(house.changes(0, "act", 8, act, 9));
        }
    }

    /** "x (an int that wraps)": body 1 is STRAPPED, 2 BLOWN, 3 CAUGHT, 6 NEW, 7 CROWN. */
    private static void actsThatWrap() {
        house.changes(MAX, "act", 1, 0, MAX - 4);
        house.changes(MIN, "act", 1, 0, MAX - 3);
        house.changes(MIN + 3, "act", 1, 0, MAX);
        house.changes(-2, "act", 0, 1, MAX);
        house.changes(0, "act", 0, 1, MIN);
        house.changes(MIN, "act", 0, 1, 1 << 30);
        house.changes(MIN, "act", 2, 1, (1 << 30) - 2);
        house.changes(-((MIN + 3) * 2), "act", 3, 1, MAX);
        house.changes((MAX ^ 3) * 3, "act", 3, 2, MAX);
        house.changes((MIN ^ 3) * 3, "act", 3, 2, MIN);
        house.changes(MIN, "act", 6, 0, (1 << 30) - 6);
        house.changes(MAX, "act", 7, 0, (1 << 30) - 7);
    }

    /** "THE TRACE's i-th body": in the house ten ran. */
    private static void placesInTheTrace() {
        int[] ran = {61, 2, 41, 30, 10, 1, 60, 40, 11, 1};
        for (int i = 0; i < 10; i++) {
            house.leaves(ran[i], "trace", i);
        }
        for (int i : new int[] {-1, 10, 11, 23, 24, 25, MIN, MAX}) {
            house.leaves(BAD, "trace", i);
        }
        fresh.leaves(BAD, "trace", 0);
        fresh.leaves(BAD, "trace", -1);
        new Twins(due, () -> bodies(8)).leaves(BAD, "trace", 0);
    }

    /** Of the latest act alone: a shorter trace has nothing of a longer one behind its end. */
    private static void tracesThatEnd() {
        HatRank x = house.changes(9, "act", 0, 0, 9);
        due.is("its one body", x.trace(0), 1);
        due.is("no second", x.trace(1), BAD);
        due.is("count(7)", x.count(7), 1);
        // the longest there is has ten bodies, fewer than the 24 that are kept
        int most = 0;
        for (int body = 0; body < 8; body++) {
            for (int act = 0; act < 4; act++) {
                x.act(body, act, 1);
                most = Math.max(most, x.count(7));
                due.holds("the last is kept", x.trace(x.count(7) - 1) > 0);
                due.is("none behind it", x.trace(x.count(7)), BAD);
            }
        }
        due.is("the most that run", most, 10);
    }

    /** "SHELVES 0 .. 5". */
    private static void keepingOnShelves() {
        for (int shelf = 0; shelf <= 5; shelf++) {
            due.is("its KIND", house.changes(1, "keep", shelf, 7).taken(shelf, 0), 7);
        }
        for (int shelf : NO_SHELF) {
            house.leaves(BAD, "keep", shelf, 0);
            house.leaves(BAD, "keep", shelf, -1);
            house.leaves(BAD, "keep", shelf, 8);
        }
    }

    /** "nothing (body -1), or a BODY". */
    private static void keepingBodies() {
        due.is("the first", house.changes(1, "keep", 5, 0).taken(5, 0), 0);
        due.is("nothing instead of a body", house.changes(1, "keep", 4, -1).taken(4, 0), NOTHING_THERE);
        due.is("nothing instead of a row", house.changes(1, "keep", 0, -1).put(0, 0, 1), NOTHING_THERE);
        due.is("a body instead of a row", house.changes(1, "keep", 0, 2).put(0, 0, 1), OTHER_KIND);
        house.leaves(1, "keep", 5, -1);
        house.leaves(1, "keep", 4, 5);
        for (int body : new int[] {-2, 8, 9, 50, MIN, MAX}) {
            for (int shelf : new int[] {0, 4, 5}) {
                house.leaves(BAD, "keep", shelf, body);
            }
        }
        fresh.leaves(BAD, "keep", 0, 0);
        fresh.leaves(1, "keep", 0, -1);
    }

    private static void rowsOnShelves() {
        for (int shelf = 0; shelf <= 5; shelf++) {
            HatRank x = house.changes(1, "row", shelf, 3, 1);
            due.is("its element", x.element(shelf, 0), 0);
            due.is("no more", x.element(shelf, 1), NO_VALUE);
        }
        for (int shelf : NO_SHELF) {
            house.leaves(BAD, "row", shelf, 0, 1);
            house.leaves(BAD, "row", shelf, 0, -1);
            house.leaves(BAD, "row", shelf, 5, 61);
        }
    }

    /** "0 bytes, 1 shorts, 2 ints, 3 longs, 4 booleans". */
    private static void sortsOfRows() {
        long[] kept = {-17, -12817, -1985229329, 81985529216486895L, 1};
        for (int sort = 0; sort <= 4; sort++) {
            HatRank x = house.changes(1, "row", 5, sort, 2);
            x.put(5, 1, 81985529216486895L);
            due.is("what is kept by sort " + sort, x.element(5, 1), kept[sort]);
        }
        for (int sort : new int[] {-1, 5, 6, MIN, MAX}) {
            house.leaves(BAD, "row", 0, sort, 1);
            house.leaves(BAD, "row", 5, sort, 60);
            house.leaves(BAD, "row", 0, sort, -1);
            house.leaves(BAD, "row", 0, sort, 61);
        }
    }

    /** "of 0 .. 60 elements"; "BAD (sort, n above 60); -14". */
    private static void sixtyElements() {
        for (int sort = 0; sort <= 4; sort++) {
            for (int n : new int[] {0, 1, 59, 60}) {
                HatRank x = house.changes(1, "row", 4, sort, n);
                due.is("the last of " + n, x.element(4, n - 1), n == 0 ? NO_VALUE : 0);
                due.is("none behind " + n, x.element(4, n), NO_VALUE);
                due.is("none to put behind " + n, x.put(4, n, 1), NO_SUCH_PLACE);
            }
            for (int n : new int[] {61, 62, 1000, MAX}) {
                house.leaves(BAD, "row", 4, sort, n);
            }
            for (int n : new int[] {-1, -2, -60, MIN}) {
                house.leaves(SIZE_BELOW_0, "row", 4, sort, n);
            }
        }
    }

    /** "0 at first (false)", whatever was on the SHELF. */
    private static void aNewRowIsEmpty() {
        for (int sort = 0; sort <= 4; sort++) {
            HatRank x = new HatRank();
            x.row(0, 3, 60);
            for (int i = 0; i < 60; i++) {
                x.put(0, i, -1);
            }
            x.row(0, 0, 1);
            x.row(0, sort, 60);
            for (int i = 0; i < 60; i++) {
                due.is("0 at first", x.element(0, i), 0);
            }
        }
    }

    /** "BAD, -11, -12, -13", in this order. */
    private static void puttingOnShelves() {
        for (int shelf : NO_SHELF) {
            house.leaves(BAD, "put", shelf, 0, 1);
            house.leaves(BAD, "put", shelf, -1, 1);
            house.leaves(NO_VALUE, "element", shelf, 0);
        }
        for (int i : new int[] {0, -1, 60, MIN, MAX}) {
            house.leaves(NOTHING_THERE, "put", 5, i, 1);
            house.leaves(OTHER_KIND, "put", 4, i, 1);
        }
    }

    /** "-13 a place that is not there". */
    private static void placesToPut() {
        int[] lengths = {8, 3, 2, 3};
        for (int shelf = 0; shelf <= 3; shelf++) {
            int length = lengths[shelf];
            due.is("the first", house.changes(1, "put", shelf, 0, 77).element(shelf, 0), 77);
            due.is("the last", house.changes(1, "put", shelf, length - 1, 77).element(shelf, length - 1), 77);
            for (int i : new int[] {-1, length, length + 1, 60, MIN, MAX}) {
                house.leaves(NO_SUCH_PLACE, "put", shelf, i, 77);
            }
        }
        Twins none = new Twins(due, () -> {
            HatRank x = new HatRank();
            x.row(0, 0, 0);
            return x;
        });
        none.leaves(NO_SUCH_PLACE, "put", 0, 0, 1);
        none.leaves(NO_VALUE, "element", 0, 0);
    }

    /** "what is put in keeps its lowest bits (a boolean: whether it is not 0; 1 or 0)", on both sides of each wrap. */
    private static void lowestBits() {
        long[][] kept = {{127, 127}, {128, -128}, {255, -1}, {256, 0}, {-128, -128}, {-129, 127}};
        each(0, kept);
        each(1, new long[][] {{32767, 32767}, {32768, -32768}, {65535, -1}, {65536, 0}, {-32768, -32768}, {-32769, 32767}});
        each(2, new long[][] {{MAX, MAX}, {MAX + 1L, MIN}, {(1L << 32) - 1, -1}, {1L << 32, 0}, {MIN, MIN}, {MIN - 1L, MAX}});
        each(3, new long[][] {{Long.MAX_VALUE, Long.MAX_VALUE}, {Long.MIN_VALUE, Long.MIN_VALUE}, {-1, -1}});
        each(4, new long[][] {{0, 0}, {1, 1}, {2, 1}, {-1, 1}, {256, 1}, {1L << 32, 1}, {Long.MIN_VALUE, 1}});
    }

    private static void each(int sort, long[][] kept) {
        for (long[] k : kept) {
            HatRank x = new HatRank();
            x.row(0, sort, 3);
            due.is("put", x.put(0, 1, k[0]), 1);
            due.is(k[0] + " in a row of sort " + sort, x.element(0, 1), k[1]);
            due.is("ahead of it", x.element(0, 0), 0);
            due.is("behind it", x.element(0, 2), 0);
        }
    }

    /** "Element i of a ROW; Long.MIN_VALUE: BAD, -11 to -13". */
    private static void elementsThatAreNotThere() {
        house.leaves(3, "element", 0, 0);
        house.leaves(2, "element", 0, 7);
        house.leaves(-9, "element", 3, 1);
        for (int i : new int[] {-1, 8, 9, 60, MIN, MAX}) {
            house.leaves(NO_VALUE, "element", 0, i);
        }
        for (int i : new int[] {-1, 0, 60}) {
            house.leaves(NO_VALUE, "element", 4, i);
            house.leaves(NO_VALUE, "element", 5, i);
            house.leaves(NO_VALUE, "element", -1, i);
            house.leaves(NO_VALUE, "element", 6, i);
        }
    }

    /** "BAD, -11 (either), -12 (no ROWS ..)", in this order. */
    private static void shiftingShelves() {
        for (int shelf : NO_SHELF) {
            for (int other = 0; other <= 5; other++) {
                house.leaves(BAD, "shift", shelf, 0, other, 0, 1);
                house.leaves(BAD, "shift", other, 0, shelf, 0, 1);
            }
            house.leaves(BAD, "shift", shelf, -1, shelf, -1, -1);
        }
        for (int shelf = 0; shelf <= 5; shelf++) {
            house.leaves(NOTHING_THERE, "shift", shelf, 0, 5, 0, 1);
            house.leaves(NOTHING_THERE, "shift", 5, 0, shelf, 0, 1);
            house.leaves(NOTHING_THERE, "shift", shelf, -1, 5, 61, -1);
        }
        for (int shelf = 0; shelf <= 4; shelf++) {
            house.leaves(OTHER_KIND, "shift", shelf, 0, 4, 0, 1);
            house.leaves(OTHER_KIND, "shift", 4, 0, shelf, 0, 1);
            house.leaves(OTHER_KIND, "shift", 4, -1, shelf, 61, -1);
        }
    }

    /** "or of unlike sorts", ahead of -13. */
    private static void shiftingUnlikeSorts() {
        for (int one = 0; one <= 4; one++) {
            for (int another = 0; another <= 4; another++) {
                int from = one;
                int to = another;
                Twins two = new Twins(due, () -> {
                    HatRank x = new HatRank();
                    Due.row(x, 0, from, 1, 1);
                    Due.row(x, 1, to, 0, 0);
                    return x;
                });
                if (one == another) {
                    due.is("the last", two.changes(2, "shift", 0, 0, 1, 0, 2).element(1, 1), 1);
                } else {
                    two.leaves(OTHER_KIND, "shift", 0, 0, 1, 0, 2);
                    two.leaves(OTHER_KIND, "shift", 0, 0, 1, 0, 0);
                    two.leaves(OTHER_KIND, "shift", 0, 3, 1, -1, 61);
                }
            }
        }
    }

    private static HatRank rows() {
        HatRank x = new HatRank();
        Due.row(x, 0, 2, 1, 2, 3, 4, 5);
        Due.row(x, 1, 2, 6, 7, 8);
        return x;
    }

    private static void elements(HatRank x, int shelf, long... want) {
        long[] got = new long[want.length];
        for (int i = 0; i < want.length; i++) {
            got[i] = x.element(shelf, i);
        }
        due.holds("shelf " + shelf + ": " + Arrays.toString(got) + ", due " + Arrays.toString(want), Arrays.equals(got, want));
    }

    /** "n elements of a ROW from i on come to another one .. from j on: n", "-13". */
    private static void shiftingPlaces() {
        Twins rows = new Twins(due, ActsShelvesBoundsTest::rows);
        elements(rows.changes(3, "shift", 0, 0, 1, 0, 3), 1, 1, 2, 3);
        elements(rows.changes(3, "shift", 0, 2, 1, 0, 3), 1, 3, 4, 5);
        elements(rows.changes(1, "shift", 0, 4, 1, 2, 1), 1, 6, 7, 5);
        elements(rows.changes(3, "shift", 1, 0, 0, 2, 3), 0, 1, 2, 6, 7, 8);
        int[][] none = {{0, 3, 1, 0, 3}, {0, 5, 1, 0, 1}, {0, 0, 1, 0, 4}, {0, 0, 1, 1, 3}, {0, 0, 1, 3, 1}, {1, 0, 0, 3, 3},
            {1, 0, 0, 0, 4}, {0, -1, 1, 0, 1}, {0, 0, 1, -1, 1}, {0, -1, 1, 0, 3}, {0, 0, 0, 0, 6}, {0, 1, 0, 0, 5},
            {0, MAX, 1, 0, 1}, {0, 0, 1, MAX, 1}, {0, 1, 1, 1, MAX}, {0, MIN, 1, 0, 1}, {0, 0, 1, MIN, 1},
            {0, MAX, 1, MAX, MAX}, {0, MIN, 1, MIN, MIN}};
        for (int[] n : none) {
            rows.leaves(NO_SUCH_PLACE, "shift", n[0], n[1], n[2], n[3], n[4]);
        }
        Twins longest = new Twins(due, () -> {
            HatRank x = new HatRank();
            x.row(0, 0, 60);
            x.put(0, 59, 9);
            x.row(1, 0, 60);
            return x;
        });
        due.is("the last of sixty", longest.changes(60, "shift", 0, 0, 1, 0, 60).element(1, 59), 9);
        longest.leaves(NO_SUCH_PLACE, "shift", 0, 0, 1, 0, 61);
    }

    /** n is 0: from any place up to the end, to any place up to the end; n below 0 has no such places. */
    private static void shiftingNone() {
        Twins rows = new Twins(due, ActsShelvesBoundsTest::rows);
        for (int i = 0; i <= 5; i++) {
            for (int j = 0; j <= 3; j++) {
                rows.leaves(0, "shift", 0, i, 1, j, 0);
                rows.leaves(NO_SUCH_PLACE, "shift", 0, i, 1, j, -1);
            }
        }
        rows.leaves(NO_SUCH_PLACE, "shift", 0, 6, 1, 0, 0);
        rows.leaves(NO_SUCH_PLACE, "shift", 0, -1, 1, 0, 0);
        rows.leaves(NO_SUCH_PLACE, "shift", 0, 0, 1, 4, 0);
        rows.leaves(NO_SUCH_PLACE, "shift", 0, 0, 1, -1, 0);
        rows.leaves(NO_SUCH_PLACE, "shift", 0, 0, 1, 0, MIN);
    }

    /** "(or the same) .. as they all were before". */
    private static void shiftingOverItself() {
        Twins rows = new Twins(due, ActsShelvesBoundsTest::rows);
        elements(rows.changes(4, "shift", 0, 0, 0, 1, 4), 0, 1, 1, 2, 3, 4);
        elements(rows.changes(4, "shift", 0, 1, 0, 0, 4), 0, 2, 3, 4, 5, 5);
        elements(rows.changes(3, "shift", 0, 0, 0, 2, 3), 0, 1, 2, 1, 2, 3);
        elements(rows.changes(1, "shift", 0, 4, 0, 0, 1), 0, 5, 2, 3, 4, 5);
        rows.leaves(5, "shift", 0, 0, 0, 0, 5);
    }

    /** "taken for a BODY of KIND k (0 .. 7), or under it: its KIND". */
    private static void takenForKinds() {
        int[] above = {-1, 0, 0, 2, 1, 3, 0, 6};
        for (int kind = 0; kind <= 7; kind++) {
            int itsKind = kind;
            Twins kept = new Twins(due, () -> {
                HatRank x = bodies(8);
                x.keep(3, itsKind);
                return x;
            });
            for (int k = 0; k <= 7; k++) {
                int up = kind;
                while (up >= 0 && up != k) {
                    up = above[up];
                }
                kept.leaves(up == k ? kind : OTHER_KIND, "taken", 3, k);
            }
            for (int k : new int[] {-1, 8, 9, MIN, MAX}) {
                kept.leaves(BAD, "taken", 3, k);
            }
        }
    }

    /** "BAD, -11, -12", in this order. */
    private static void takenFromWhatIsNoBody() {
        for (int k = 0; k <= 7; k++) {
            for (int shelf = 0; shelf <= 3; shelf++) {
                house.leaves(OTHER_KIND, "taken", shelf, k);
            }
            house.leaves(NOTHING_THERE, "taken", 5, k);
            for (int shelf : NO_SHELF) {
                house.leaves(BAD, "taken", shelf, k);
            }
        }
        for (int k : new int[] {-1, 8}) {
            for (int shelf = 0; shelf <= 5; shelf++) {
                house.leaves(BAD, "taken", shelf, k);
            }
        }
    }
}
