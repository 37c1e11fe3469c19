import java.util.function.Supplier;

/** Promises 15 to 23 at their boundaries; a thought leaves all as it was, refused or not. */
public final class ThoughtBoundsTest {
    private static final int BAD = -1, NOT = -2, STATE = -5, NOTHING_THERE = -11, OTHER_KIND = -12;
    private static final long NO_VALUE = Long.MIN_VALUE;
    private static final int MIN = Integer.MIN_VALUE, MAX = Integer.MAX_VALUE;
    private static final int[] NO_PERSON = {-1, 5, 6, MIN, MAX};
    private static final Due due = new Due();
    private static final Twins house = new Twins(due, House::mixed);
    /** Nothing falls there any more. */
    private static final Twins at22 = new Twins(due, () -> House.at(22));
    private static final Twins at23 = new Twins(due, () -> House.at(23));
    private static final Twins at24 = new Twins(due, () -> House.at(24));

    public static void main(String[] args) {
        riskFromNowTo23();
        riskAtPlaces();
        riskOfWhatCantBe();
        walkFromNowToT();
        walkOfWhatCantBe();
        risksWhenTheDayBegins();
        risksWhenTheDayEnds();
        chanceOfWhom();
        chanceInHours();
        chanceParts();
        chancesInLowestTerms();
        meansInLowestTerms();
        severalWhoMayFall();
        noneBehindNine();
        thoughtsKnowWhatChanged();
        standOfWhom();
        standOfLikeOnes();
        thoughtsWhenTheDayEnds();
        heavyHours();
        heavyNumbers();
        heavyBrims();
        aheadHours();
        aheadOfWhat();
        aheadOfNobody();
        stormOfNobody();
        stormFrom0To20();
        stormBehindHour23();
        stormFromNowOn();
        seededShelvesAndHours();
        seededHoursLeft();
        seededRowsThatLackOrGoOn();
        seedsFrom0To99();
        due.end();
    }

    /** "t; NOW to 23". */
    private static void riskFromNowTo23() {
        house.leaves(12, "risk", 0, 5);
        house.leaves(24, "risk", 0, 6);
        house.leaves(12 * 19, "risk", 0, 23);
        for (int t : new int[] {0, 3, 4, 24, 25, 99}) {
            house.leaves(BAD, "risk", 0, t);
            house.leaves(BAD, "risk", 0, 500 + t);
        }
        house.leaves(0, "risk", 4, 405);
        for (int person : NO_PERSON) {
            house.leaves(BAD, "risk", person, 5);
        }
    }

    /** "pt: 100 times the PLACE". */
    private static void riskAtPlaces() {
        house.leaves(36, "risk", 0, 407);
        house.leaves(NOT, "risk", 0, 505);
        for (int pt : new int[] {605, 623, 705, 1005, -1, -95, -5, -100, MIN, MAX}) {
            house.leaves(BAD, "risk", 0, pt);
        }
    }

    /** "NOT: it can't be": as many HOURS behind NOW as there are WAYS to go, at least. */
    private static void riskOfWhatCantBe() {
        house.leaves(NOT, "risk", 0, 105);
        house.leaves(24, "risk", 0, 106);
        house.leaves(NOT, "risk", 0, 206);
        house.leaves(36, "risk", 0, 207);
        house.leaves(NOT, "risk", 0, 523);
        // PERSON 1 has three WAYS to PLACE 2: 4-0, 0-1, 1-2
        house.leaves(NOT, "risk", 1, 207);
        house.leaves(0, "risk", 1, 208);
        Twins alone = new Twins(due, () -> {
            HatRank x = House.town("", 0, 0);
            x.person(10, 1);
            return x;
        });
        alone.leaves(4, "risk", 0, 100);
        alone.leaves(4 * 24, "risk", 0, 123);
        alone.leaves(NOT, "risk", 0, 23);
    }

    /** "the PLACE in an HOUR (NOW to t)". */
    private static void walkFromNowToT() {
        house.leaves(0, "walk", 0, 207, 5);
        house.leaves(1, "walk", 0, 207, 6);
        house.leaves(2, "walk", 0, 207, 7);
        for (int hour : new int[] {-1, 0, 4, 8, 23, MIN, MAX}) {
            house.leaves(BAD, "walk", 0, 207, hour);
        }
        house.leaves(0, "walk", 0, 5, 5);
        house.leaves(BAD, "walk", 0, 5, 6);
        house.leaves(0, "walk", 0, 23, 23);
        house.leaves(BAD, "walk", 0, 23, 24);
        for (int person : NO_PERSON) {
            house.leaves(BAD, "walk", person, 5, 5);
        }
        for (int pt : new int[] {4, 24, 99, 605, -1, MIN, MAX}) {
            house.leaves(BAD, "walk", 0, pt, 5);
        }
    }

    /** Where no row of PLACES is, BAD is still named first. */
    private static void walkOfWhatCantBe() {
        house.leaves(NOT, "walk", 0, 206, 5);
        house.leaves(NOT, "walk", 0, 206, 6);
        house.leaves(BAD, "walk", 0, 206, 4);
        house.leaves(BAD, "walk", 0, 206, 7);
        house.leaves(NOT, "walk", 0, 523, 23);
        house.leaves(BAD, "walk", 0, 523, 24);
    }

    /** pt is 0 for PLACE 0 in HOUR 0; each hundred is the next PLACE in HOUR 0. */
    private static void risksWhenTheDayBegins() {
        for (int at = 0; at < 7; at++) {
            int own = at;
            Twins seven = new Twins(due, () -> {
                HatRank x = House.town("", 0, 0, 0, 0, 0, 0, 0);
                x.person(10, own);
                return x;
            });
            for (int place = 0; place < 7; place++) {
                seven.leaves(place == at ? 4 : NOT, "risk", 0, 100 * place);
                seven.leaves(place == at ? 4 * 24 : NOT, "risk", 0, 100 * place + 23);
                seven.leaves(place == at ? at : NOT, "walk", 0, 100 * place, 0);
                seven.leaves(place == at ? at : NOT, "walk", 0, 100 * place + 23, 23);
            }
            seven.leaves(BAD, "risk", 0, 700);
            seven.leaves(BAD, "risk", 0, -1);
            seven.leaves(BAD, "walk", 0, 700, 0);
            seven.leaves(BAD, "walk", 0, 100 * at, 1);
            seven.leaves(BAD, "walk", 0, 100 * at, -1);
        }
    }

    private static void risksWhenTheDayEnds() {
        at23.leaves(0, "risk", 0, 23);
        at23.leaves(0, "walk", 0, 23, 23);
        at23.leaves(NOT, "risk", 0, 123);
        at23.leaves(BAD, "risk", 0, 22);
        at23.leaves(BAD, "walk", 0, 23, 22);
        for (int t = 22; t <= 25; t++) {
            at24.leaves(BAD, "risk", 0, t);
            at24.leaves(BAD, "walk", 0, t, t);
            at24.leaves(BAD, "walk", 0, 23, t);
        }
    }

    private static void chanceOfWhom() {
        for (int y = 0; y <= 2; y++) {
            house.leaves(0, "chance", 0, y, 0);
            house.leaves(1, "chance", 2, y, 0);
            house.leaves(0, "chance", 4, y, 0);
            house.leaves(2 - y, "mean", 0, y, 0);
            house.leaves(9, "mean", 2, y, 0);
            house.leaves(1, "mean", 4, y, 0);
            for (int person : NO_PERSON) {
                house.leaves(NO_VALUE, "chance", person, y, 0);
                house.leaves(NO_VALUE, "mean", person, y, 0);
            }
        }
        Twins nobody = new Twins(due, () -> House.town("", 0));
        nobody.leaves(NO_VALUE, "chance", 0, 0, 0);
        nobody.leaves(NO_VALUE, "mean", 0, 0, 0);
    }

    /** "y HOURS (0 .. 2)". */
    private static void chanceInHours() {
        for (int y : new int[] {-1, 3, 4, MIN, MAX}) {
            for (int part = 0; part <= 1; part++) {
                house.leaves(NO_VALUE, "chance", 2, y, part);
                house.leaves(NO_VALUE, "mean", 2, y, part);
            }
        }
    }

    /** "part 0 above, 1 below the line"; "(0 by 1)". */
    private static void chanceParts() {
        for (int y = 0; y <= 2; y++) {
            house.leaves(1, "chance", 0, y, 1);
            house.leaves(1, "chance", 2, y, 1);
            house.leaves(1, "mean", 0, y, 1);
            for (int part : new int[] {-1, 2, 3, MIN, MAX}) {
                house.leaves(NO_VALUE, "chance", 2, y, part);
                house.leaves(NO_VALUE, "mean", 2, y, part);
            }
        }
    }

    private static long divisor(long a, long b) {
        return b == 0 ? a : divisor(b, a % b);
    }

    private static void fraction(String call, Twins twins, int person, int y, long above, long below) {
        long common = divisor(above, below);
        twins.leaves(above / common, call, person, y, 0);
        twins.leaves(below / common, call, person, y, 1);
    }

    private static Supplier<HatRank> byNumber(int number, int hats, int other) {
        return () -> {
            HatRank x = House.town("p=0?" + number, 0, 0);
            x.mend(0, 2, 1);
            x.person(10 * hats, 0);
            x.person(10 * other, 1);
            return x;
        };
    }

    /** A CHANCE by each number 0 .. 12: never at the one end, surely at the other. */
    private static void chancesInLowestTerms() {
        for (int number = 0; number <= 12; number++) {
            Twins two = new Twins(due, byNumber(number, 5, 4));
            int stays = 12 - number;
            fraction("chance", two, 0, 0, 1, 1);
            fraction("chance", two, 0, 1, stays, 12);
            fraction("chance", two, 1, 1, number, 12);
            fraction("chance", two, 0, 2, stays * stays, 144);
            fraction("chance", two, 1, 2, 144 - stays * stays, 144);
        }
    }

    private static void meansInLowestTerms() {
        for (int number = 0; number <= 12; number++) {
            Twins two = new Twins(due, byNumber(number, 1, 0));
            int stays = 12 - number;
            fraction("mean", two, 0, 0, 1, 1);
            fraction("mean", two, 0, 1, stays, 12);
            fraction("mean", two, 0, 2, stays * stays, 144);
            fraction("mean", two, 1, 1, number, 12);
            // who has 9 catches none: it is LYING
            Twins nine = new Twins(due, byNumber(number, 1, 9));
            fraction("mean", nine, 0, 2, stays * stays, 144);
            fraction("mean", nine, 1, 2, 9, 1);
        }
    }

    /** Two of whom each loses a hat by 6 of 12, for good or to take it up again: by itself each is as if alone. */
    private static void severalWhoMayFall() {
        Twins forGood = new Twins(due, () -> falling(2, 2));
        Twins again = new Twins(due, () -> falling(0, 1));
        for (int p = 0; p < 2; p++) {
            fraction("mean", forGood, p, 1, 5, 2);
            fraction("mean", forGood, p, 2, 2, 1);
            fraction("mean", again, p, 1, 5, 2);
            fraction("mean", again, p, 2, 5, 2);
        }
        fraction("chance", forGood, 0, 1, 3, 4);
        fraction("chance", forGood, 1, 1, 1, 4);
        fraction("chance", forGood, 0, 2, 11, 16);
        fraction("chance", forGood, 1, 2, 5, 16);
        fraction("chance", again, 0, 2, 3, 4);
        fraction("chance", again, 1, 2, 1, 4);
    }

    private static HatRank falling(int... downs) {
        HatRank x = House.town("6", 0, 0, 0);
        for (int p = 0; p < 2; p++) {
            x.mend(p, 2, downs[p]);
            x.person(30, p);
        }
        return x;
    }

    /** 9 HATS are the most, 0 and 1 the least: the one's number is not the other's, in whatever order they come. */
    private static void noneBehindNine() {
        for (int order = 0; order < 4; order++) {
            int first = order % 2;
            int few = order / 2;
            Twins six = new Twins(due, () -> {
                HatRank x = House.town("n=9?6", 0, 0, 0, 0, 0, 0, 0);
                for (int p = 0; p < 6; p++) {
                    x.mend(p, 2, 6);
                    x.person(p % 2 == first ? 90 : 10 * few, p);
                }
                return x;
            });
            for (int p = 0; p < 6; p++) {
                boolean nine = p % 2 == first;
                fraction("mean", six, p, 1, nine ? 17 : few, nine ? 2 : 1);
                fraction("mean", six, p, 2, nine ? 33 : few, nine ? 4 : 1);
            }
        }
    }

    /** Asked once: a thought could make another one right. */
    private static void thoughts(String what, HatRank x, String want) {
        String got = x.seeded(0, 1) + " " + x.ahead(0, 1, 0, 0) + " " + x.mean(0, 1, 0) + " " + x.risk(0, 0) + " "
            + x.heavy(0, 11) + " " + x.storm(0) + " " + x.stand(1, 1);
        due.holds(what + ": " + got + ", due is " + want, got.equals(want));
    }

    /** What is told of an hour holds of the town as it is, not as it was in a thought before. */
    private static void thoughtsKnowWhatChanged() {
        HatRank x = House.town("p=0&g&!b?12", 0, 9);
        x.way(1);
        x.person(10, 0);
        x.person(10, 0);
        x.mend(0, 3, 1);
        for (int hour = 1; hour < 24; hour++) {
            x.mend(hour, 3, 0);
        }
        Due.row(x, 0, 0, 0);
        String falls = "0 0 0 12 1 0 0";
        thoughts("it falls", x, falls);
        x.mend(0, 0, 1);
        thoughts("a BRIM", x, "-2 1 1 0 1 -2 0");
        x.undo();
        thoughts("undone", x, falls);
        x.mend(0, 1, 1);
        thoughts("a LEE", x, "-2 1 1 0 0 1 0");
        x.undo();
        x.mend(0, 3, 0);
        thoughts("a BLOW", x, "-2 1 1 0 0 1 0");
        x.undo();
        x.move(0, 1);
        // what falls there is LYING there, and taken up again unless it falls in the last hour
        thoughts("a PLACE", x, "-2 1 1 -2 0 10 0");
        x.move(0, 0);
        Due.law(x, "0");
        thoughts("a law", x, "-2 1 1 0 0 -2 0");
        Due.law(x, "p=0&g&!b?12");
        thoughts("all as it was", x, falls);
    }

    private static void standOfWhom() {
        for (int y = 0; y <= 2; y++) {
            house.leaves(0, "stand", 0, y);
            house.leaves(1, "stand", 2, y);
            house.leaves(4, "stand", 4, y);
            for (int person : NO_PERSON) {
                house.leaves(BAD, "stand", person, y);
            }
        }
        for (int y : new int[] {-1, 3, MIN, MAX}) {
            house.leaves(BAD, "stand", 0, y);
        }
    }

    /** Hats lie where they are to be taken up; who has most of them by then commands. */
    private static Twins standing(int at, int... lying) {
        return standing(0, at, lying);
    }

    private static Twins standing(int other, int at, int[] lying) {
        return new Twins(due, () -> {
            HatRank x = House.town("0", new int[lying.length]);
            x.person(10, other);
            x.person(10, at);
            for (int place = 0; place < lying.length; place++) {
                for (int i = 0; i < lying[place]; i++) {
                    x.lay(place);
                }
            }
            return x;
        });
    }

    /** "of like ones its own, else the least". */
    private static void standOfLikeOnes() {
        standing(0, 0).leaves(0, "stand", 1, 2);
        standing(6, 0, 0, 0, 0, 0, 0, 0).leaves(6, "stand", 1, 2);
        standing(6, 0, 0, 0, 0, 0, 0, 1).leaves(6, "stand", 1, 1);
        standing(6, 0, 1, 1, 0, 0, 0, 0).leaves(1, "stand", 1, 1);
        standing(0, 0, 0, 0, 0, 0, 0, 1).leaves(6, "stand", 1, 1);
        standing(2, 0, 1, 1, 0, 1, 0, 0).leaves(2, "stand", 1, 1);
        standing(2, 0, 1, 0, 0, 1, 0, 0).leaves(1, "stand", 1, 1);
        standing(2, 0, 1, 0, 0, 1, 0, 0).leaves(2, "stand", 1, 0);
        // at PLACE 0 the other one takes up the first hat, and has a lesser number
        standing(2, 1, 0, 0).leaves(2, "stand", 1, 2);
        standing(2, 2, 0, 0).leaves(2, "stand", 1, 1);
        // the least of all PLACES, and the greatest
        standing(3, 2, new int[] {1, 0, 0, 0}).leaves(0, "stand", 1, 1);
        standing(3, 2, new int[] {1, 1, 0, 0}).leaves(0, "stand", 1, 1);
        standing(3, 0, new int[] {1, 1, 0, 0}).leaves(0, "stand", 1, 1);
        standing(3, 1, new int[] {1, 1, 0, 0}).leaves(1, "stand", 1, 1);
        standing(1, 2, new int[] {0, 0, 0, 1}).leaves(3, "stand", 1, 1);
    }

    /** "STATE: there are not as many left"; BAD is named first. */
    private static void thoughtsWhenTheDayEnds() {
        Twins[] ends = {at24, at23, at22};
        for (int left = 0; left <= 2; left++) {
            for (int y = 0; y <= 2; y++) {
                boolean asMany = y <= left;
                ends[left].leaves(asMany ? 1 : STATE, "chance", 2, y, 0);
                ends[left].leaves(asMany ? 1 : STATE, "chance", 2, y, 1);
                ends[left].leaves(asMany ? 9 : STATE, "mean", 2, y, 0);
                ends[left].leaves(asMany ? 1 : STATE, "mean", 2, y, 1);
                ends[left].leaves(asMany ? 1 : STATE, "stand", 2, y);
                ends[left].leaves(NO_VALUE, "chance", 5, y, 0);
                ends[left].leaves(NO_VALUE, "chance", 2, y, 2);
                ends[left].leaves(NO_VALUE, "mean", -1, y, 0);
                ends[left].leaves(NO_VALUE, "mean", 2, y, -1);
                ends[left].leaves(BAD, "stand", 5, y);
            }
            ends[left].leaves(NO_VALUE, "chance", 2, 3, 0);
            ends[left].leaves(NO_VALUE, "mean", 2, 3, 0);
            ends[left].leaves(BAD, "stand", 2, 3);
        }
    }

    private static Twins weighed(int hats, int brim) {
        return new Twins(due, () -> {
            HatRank x = House.town("", 0);
            x.person(10 * hats + brim, 0);
            x.mend(0, 3, 0);
            x.mend(23, 3, 1);
            return x;
        });
    }

    /** "100 times the HOUR": 0 .. 23, ahead of NOW too. */
    private static void heavyHours() {
        Twins seven = weighed(7, 3);
        seven.leaves(7, "heavy", 0, 0);
        seven.leaves(8, "heavy", 0, 2300);
        for (int hx : new int[] {2400, 2401, 2500, 9900, -1, -100, MIN, MAX}) {
            seven.leaves(BAD, "heavy", 0, hx);
        }
        for (int person : new int[] {-1, 1, MIN, MAX}) {
            seven.leaves(BAD, "heavy", person, 0);
        }
        house.leaves(0, "heavy", 4, 0);
        for (int person : NO_PERSON) {
            house.leaves(BAD, "heavy", person, 0);
        }
        at24.leaves(0, "heavy", 2, 0);
        at24.leaves(0, "heavy", 2, 2300);
        at24.leaves(BAD, "heavy", 2, 2400);
    }

    /** "x (0 .. 12)". */
    private static void heavyNumbers() {
        Twins nine = weighed(9, 3);
        for (int x = 0; x <= 12; x++) {
            nine.leaves(Math.max(0, 9 - x), "heavy", 0, x);
        }
        for (int x : new int[] {13, 14, 99, 113, 2313, 2399}) {
            nine.leaves(BAD, "heavy", 0, x);
        }
        nine.leaves(0, "heavy", 0, 2312);
    }

    /** "the least BRIM (0 .. 9) with which ..; NOT". */
    private static void heavyBrims() {
        Twins nine = weighed(9, 3);
        nine.leaves(9, "heavy", 0, 2301);
        nine.leaves(NOT, "heavy", 0, 2300);
        nine.leaves(8, "heavy", 0, 2302);
        nine.leaves(9, "heavy", 0, 0);
        Twins none = weighed(0, 3);
        none.leaves(0, "heavy", 0, 0);
        house.leaves(NOT, "heavy", 0, 11);
        house.leaves(0, "heavy", 0, 12);
        Twins last = new Twins(due, () -> {
            HatRank x = House.town("b<9?12", 0);
            x.person(10, 0);
            return x;
        });
        last.leaves(9, "heavy", 0, 11);
    }

    /** "k HOURS (1 .. 24; no more than are left)". */
    private static void aheadHours() {
        for (int k = 1; k <= 19; k++) {
            house.leaves(Math.max(0, 2 - k), "ahead", 0, k, 0, 0);
            house.leaves(2, "ahead", 0, k, -1, 1);
            house.leaves(4 + Math.min(2, k), "ahead", 0, k, -1, 2);
        }
        for (int what = 0; what <= 2; what++) {
            int person = what == 0 ? 0 : -1;
            for (int k = 20; k <= 24; k++) {
                house.leaves(STATE, "ahead", 0, k, person, what);
            }
            for (int k : new int[] {0, -1, 25, MIN, MAX}) {
                house.leaves(BAD, "ahead", 0, k, person, what);
                at24.leaves(BAD, "ahead", 0, k, person, what);
            }
            at24.leaves(STATE, "ahead", 0, 1, person, what);
            at23.leaves(STATE, "ahead", 0, 2, person, what);
        }
        at23.leaves(9, "ahead", 0, 1, 2, 0);
        Twins whole = new Twins(due, () -> House.town("", 0));
        whole.leaves(0, "ahead", 0, 24, -1, 2);
        whole.leaves(BAD, "ahead", 0, 25, -1, 2);
        for (int seed : new int[] {MIN, -1, MAX}) {
            house.leaves(1, "ahead", seed, 1, 0, 0);
        }
    }

    /** "HATS of a PERSON (what 0), who COMMANDS (what 1; person -1), how many are LYING (what 2; person -1)". */
    private static void aheadOfWhat() {
        house.leaves(1, "ahead", 0, 1, 4, 0);
        for (int person : NO_PERSON) {
            house.leaves(BAD, "ahead", 0, 1, person, 0);
            at24.leaves(BAD, "ahead", 0, 1, person, 0);
        }
        for (int person : new int[] {-2, 0, 4, 5, MIN, MAX}) {
            house.leaves(BAD, "ahead", 0, 1, person, 1);
            house.leaves(BAD, "ahead", 0, 1, person, 2);
            at24.leaves(BAD, "ahead", 0, 1, person, 1);
        }
        for (int what : new int[] {-1, 3, 4, MIN, MAX}) {
            house.leaves(BAD, "ahead", 0, 1, -1, what);
            house.leaves(BAD, "ahead", 0, 1, 0, what);
            at24.leaves(BAD, "ahead", 0, 1, -1, what);
        }
    }

    /** "STATE: .. or (what 1) nobody is there". */
    private static void aheadOfNobody() {
        Twins nobody = new Twins(due, () -> {
            HatRank x = House.town("", 0);
            x.lay(0);
            return x;
        });
        nobody.leaves(STATE, "ahead", 0, 1, -1, 1);
        nobody.leaves(STATE, "ahead", 0, 24, -1, 1);
        nobody.leaves(1, "ahead", 0, 24, -1, 2);
        nobody.leaves(BAD, "ahead", 0, 1, 0, 0);
        nobody.leaves(BAD, "ahead", 0, 1, 0, 1);
        nobody.leaves(BAD, "ahead", 0, 25, -1, 1);
        nobody.leaves(BAD, "ahead", 0, 0, -1, 1);
    }

    private static void stormOfNobody() {
        new Twins(due, HatRank::new).leaves(STATE, "storm", 0);
        new Twins(due, () -> House.town("", 0)).leaves(STATE, "storm", 0);
        Twins dusk = new Twins(due, () -> {
            HatRank x = House.town("", 0);
            x.go(0, 24);
            return x;
        });
        dusk.leaves(STATE, "storm", 0);
        new Twins(due, () -> stormy(24, 0)).leaves(NOT, "storm", MIN);
        new Twins(due, () -> stormy(23, 0)).leaves(20, "storm", MAX);
    }

    /** The hats of 0 fall in a GUST of so many; with the first of them 1 has more. */
    private static HatRank stormy(int gust, int lee) {
        HatRank x = House.town("p=0&g>" + (gust - 1) + "?12", lee, 0);
        x.mend(0, 2, 1);
        x.person(10, 0);
        x.person(10, 1);
        return x;
    }

    /** "(0 .. 20; BLOW may be above 9 then) at least". */
    private static void stormFrom0To20() {
        for (int gust = 1; gust <= 23; gust++) {
            int wanted = gust;
            new Twins(due, () -> stormy(wanted, 0)).leaves(Math.max(0, gust - 3), "storm", 0);
        }
        new Twins(due, () -> stormy(24, 0)).leaves(NOT, "storm", 0);
        new Twins(due, () -> stormy(25, 0)).leaves(NOT, "storm", 0);
        // a GUST is BLOW less LEE, 0 at least: the more comes to BLOW
        new Twins(due, () -> stormy(14, 9)).leaves(20, "storm", 0);
        new Twins(due, () -> stormy(15, 9)).leaves(NOT, "storm", 0);
        new Twins(due, () -> stormy(1, 9)).leaves(7, "storm", 0);
        house.leaves(NOT, "storm", 0);
    }

    private static HatRank within(String law, int now) {
        HatRank x = House.town(law, 0);
        x.person(10, 0);
        x.person(10, 0);
        if (now > 0) {
            x.go(0, now);
        }
        return x;
    }

    /** "another one COMMANDS behind HOUR 23": not between. */
    private static void stormBehindHour23() {
        new Twins(due, () -> within("p=0&h=23?12", 0)).leaves(0, "storm", 0);
        new Twins(due, () -> within("p=0&h=22?12", 0)).leaves(0, "storm", 0);
        new Twins(due, () -> within("p=0&h=22?12;p=1&h=23?12", 0)).leaves(NOT, "storm", 0);
        new Twins(due, () -> within("p=0&h=22?12;p=1&h=23&g<7?12", 0)).leaves(4, "storm", 0);
    }

    /** "all BLOWS of HOURS from NOW on"; at NOW 24 there is none. */
    private static void stormFromNowOn() {
        new Twins(due, () -> within("p=0&h=22&g>9?12", 22)).leaves(7, "storm", 0);
        new Twins(due, () -> within("p=0&h=22&g>9?12", 23)).leaves(NOT, "storm", 0);
        new Twins(due, () -> within("p=0&h=23&g>9?12", 23)).leaves(7, "storm", 0);
        new Twins(due, () -> within("p=0&h=23&g>9?12", 24)).leaves(NOT, "storm", 0);
        at24.leaves(NOT, "storm", 0);
    }

    /** "BAD, -11, -12 (no ROW of bytes)", "k 0 .. 24". */
    private static void seededShelvesAndHours() {
        for (int shelf : new int[] {-1, 6, MIN, MAX}) {
            house.leaves(BAD, "seeded", shelf, 0);
        }
        for (int k : new int[] {-1, 25, MIN, MAX}) {
            for (int shelf = 0; shelf < 6; shelf++) {
                house.leaves(BAD, "seeded", shelf, k);
            }
        }
        for (int shelf = 1; shelf <= 4; shelf++) {
            house.leaves(OTHER_KIND, "seeded", shelf, 0);
        }
        house.leaves(NOTHING_THERE, "seeded", 5, 0);
        house.leaves(NOT, "seeded", 0, 0);
        Twins whole = new Twins(due, () -> {
            HatRank x = House.town("", 0);
            x.row(0, 4, 0);
            x.row(5, 0, 0);
            return x;
        });
        whole.leaves(0, "seeded", 5, 24);
        whole.leaves(BAD, "seeded", 5, 25);
        whole.leaves(OTHER_KIND, "seeded", 0, 0);
    }

    /** "STATE: there are not as many left", behind -11 and -12. */
    private static void seededHoursLeft() {
        house.leaves(NOT, "seeded", 0, 19);
        house.leaves(STATE, "seeded", 0, 20);
        house.leaves(STATE, "seeded", 0, 24);
        house.leaves(NOTHING_THERE, "seeded", 5, 24);
        house.leaves(OTHER_KIND, "seeded", 1, 24);
        house.leaves(OTHER_KIND, "seeded", 4, 24);
        at23.leaves(STATE, "seeded", 0, 2);
        at24.leaves(NOT, "seeded", 0, 0);
        at24.leaves(STATE, "seeded", 0, 1);
        at24.leaves(BAD, "seeded", 0, 25);
    }

    /** "(what lacks in the ROW does not matter, nor what is behind PEOPLE)". */
    private static void seededRowsThatLackOrGoOn() {
        int[] hats = {2, 6, 9, 2, 1};
        for (int length = 0; length <= 8; length++) {
            for (int wrong = -1; wrong < length; wrong++) {
                int rowLength = length;
                int unlike = wrong;
                Twins told = new Twins(due, () -> {
                    HatRank x = House.mixed();
                    x.row(0, 0, rowLength);
                    for (int i = 0; i < rowLength; i++) {
                        x.put(0, i, i < 5 ? hats[i] : 77);
                    }
                    if (unlike >= 0) {
                        x.put(0, unlike, x.element(0, unlike) + 1);
                    }
                    return x;
                });
                told.leaves(wrong < 0 || wrong >= 5 ? 0 : NOT, "seeded", 0, 0);
            }
        }
    }

    /** "the least SEED 0 .. 99": many hats in the wind tell one seed from another. */
    private static void seedsFrom0To99() {
        for (int seed : new int[] {-1, 0, 1, 98, 99, 100, 101}) {
            Twins told = new Twins(due, () -> {
                HatRank x = House.town("6", 0, 0);
                for (int p = 0; p < 6; p++) {
                    x.person(50, p % 2);
                }
                x.row(0, 0, 6);
                for (int p = 0; p < 6; p++) {
                    x.put(0, p, x.ahead(seed, 10, p, 0));
                }
                return x;
            });
            told.leaves(seed >= 0 && seed <= 99 ? seed : NOT, "seeded", 0, 10);
        }
    }
}
