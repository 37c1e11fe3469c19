/** Promises 10 to 14, and what an HOUR does, at their boundaries. */
public final class DeedBoundsTest {
    private static final int BAD = -1, NOT = -2, FULL = -3, STATE = -5;
    private static final int MIN = Integer.MIN_VALUE, MAX = Integer.MAX_VALUE;
    private static final Due due = new Due();
    private static final Twins house = new Twins(due, House::mixed);

    public static void main(String[] args) {
        oneTo24Hours();
        hoursThatAreLeft();
        anySeed();
        takingUpBelowNine();
        takingUpWhileOneLies();
        gustsInAnHour();
        drawsBelowTheNumber();
        whoHasNoHatsDrawsNothing();
        seedsGoOnFromHourToHour();
        landingOnTheNextRound();
        landingBelowNine();
        landingDownBelowNine();
        notOnItself();
        downThatIsThereOrNot();
        firstByNumbersDown();
        movingByWays();
        movingWhenTheDayIsOver();
        layingAtPlaces();
        ninetyNineLying();
        theWindLaysOn();
        whoCommands();
        ledOfWhom();
        ledBeforeAndSince();
        due.end();
    }

    /** "n HOURS (1 .. 24)"; in the house the two hats of 0 fall, and then no more. */
    private static void oneTo24Hours() {
        for (int n = 1; n <= 19; n++) {
            HatRank x = house.changes(Math.min(n, 2), "go", 0, n);
            due.is("NOW", x.count(3), 5 + n);
            due.is("LYING down", x.of(1, 12), 2 + Math.min(n, 2));
        }
        for (int n : new int[] {0, -1, 25, 26, MIN, MAX}) {
            house.leaves(BAD, "go", 0, n);
        }
        Twins fresh = new Twins(due, HatRank::new);
        due.is("NOW", fresh.changes(0, "go", 0, 1).count(3), 1);
        due.is("NOW", fresh.changes(0, "go", 0, 24).count(3), 24);
        fresh.leaves(BAD, "go", 0, 0);
        fresh.leaves(BAD, "go", 0, 25);
    }

    /** "STATE: there are not as many left"; BAD is named first. */
    private static void hoursThatAreLeft() {
        house.changes(2, "go", 0, 19);
        for (int n = 20; n <= 24; n++) {
            house.leaves(STATE, "go", 0, n);
        }
        Twins last = new Twins(due, () -> House.at(23));
        due.is("NOW", last.changes(0, "go", 0, 1).count(3), 24);
        last.leaves(STATE, "go", 0, 2);
        last.leaves(STATE, "go", 0, 24);
        last.leaves(BAD, "go", 0, 25);
        last.leaves(BAD, "go", 0, 0);
        Twins over = new Twins(due, () -> House.at(24));
        over.leaves(STATE, "go", 0, 1);
        over.leaves(STATE, "go", 0, 24);
        over.leaves(BAD, "go", 0, 25);
        over.leaves(BAD, "go", 0, 0);
        over.leaves(BAD, "go", 0, -1);
    }

    private static void anySeed() {
        for (int seed : new int[] {0, 1, -1, MIN, MAX}) {
            house.changes(2, "go", seed, 2);
        }
    }

    private static HatRank oneTown(String law, int... hats) {
        HatRank x = House.town(law, 0);
        for (int h : hats) {
            x.person(10 * h, 0);
        }
        return x;
    }

    private static void hats(String what, HatRank x, int... hats) {
        for (int p = 0; p < hats.length; p++) {
            due.is(what + ": HATS of " + p, x.of(p, 0), hats[p]);
        }
    }

    /** "who has fewer than 9 HATS takes up one". */
    private static void takingUpBelowNine() {
        for (int had = 0; had <= 9; had++) {
            HatRank x = oneTown("0", had);
            x.lay(0);
            due.is("go", x.go(0, 1), 0);
            hats("had " + had, x, Math.min(9, had + 1));
            due.is("LYING, had " + had, x.of(0, 12), had < 9 ? 0 : 1);
        }
    }

    /** "one that is LYING at its PLACE, if one is", PERSON by PERSON. */
    private static void takingUpWhileOneLies() {
        for (int lying = 0; lying <= 4; lying++) {
            HatRank x = oneTown("0", 9, 1, 8, 0);
            x.place(0);
            x.person(10, 1);
            for (int i = 0; i < lying; i++) {
                x.lay(0);
            }
            x.go(0, 1);
            hats("lying " + lying, x, 9, lying > 0 ? 2 : 1, lying > 1 ? 9 : 8, lying > 2 ? 1 : 0, 1);
            due.is("LYING then", x.of(0, 12), Math.max(0, lying - 3));
        }
    }

    /** "GUST at a PLACE in an HOUR: BLOW less LEE, 0 at least", in deed as in thought. */
    private static void gustsInAnHour() {
        for (int lee = 0; lee <= 9; lee++) {
            for (int blow = 0; blow <= 9; blow++) {
                int gust = Math.max(0, blow - lee);
                for (int asked = Math.max(0, gust - 1); asked <= gust + 1; asked++) {
                    HatRank x = House.town("g=" + asked + "?12", lee);
                    x.mend(0, 3, blow);
                    x.person(20, 0);
                    int left = asked == gust ? 1 : 2;
                    Due.row(x, 0, 0, left);
                    due.is("GUST", x.of(0, 13), gust);
                    due.is("ahead", x.ahead(0, 1, 0, 0), left);
                    due.is("seeded", x.seeded(0, 1), 0);
                    due.is("mean", x.mean(0, 1, 0), left);
                    due.is("risk", x.risk(0, 0), asked == gust ? 12 : 0);
                    due.is("heavy", x.heavy(0, 11), asked == gust ? NOT : 0);
                    due.is("go", x.go(0, 1), 2 - left);
                }
            }
        }
    }

    private static int next(int z) {
        return z * 1103515245 + 12345;
    }

    private static int drawn(int z) {
        return (z >>> 8) % 12;
    }

    /** "one falls, if (z >>> 8) % 12 is below THE LAW's number": as great as it does not do. */
    private static void drawsBelowTheNumber() {
        for (int seed : new int[] {0, 1, 2, 3, 4, 5, 6, 7, 8, 9, -1, -7, 99, 1 << 20, MIN, MAX}) {
            int draw = drawn(next(seed));
            due.is("seed " + seed + ", a number like its draw", oneTown("" + draw, 5).go(seed, 1), 0);
            due.is("seed " + seed + ", one more", oneTown("" + (draw + 1), 5).go(seed, 1), 1);
            due.is("seed " + seed + ", by 0", oneTown("0", 5).go(seed, 1), 0);
            due.is("seed " + seed + ", by 12", oneTown("12", 5).go(seed, 1), 1);
        }
    }

    /** "PERSON by PERSON, who has HATS then: z = ..": with one hat there is a draw, with none there is not. */
    private static void whoHasNoHatsDrawsNothing() {
        for (int seed = 0; seed < 30; seed++) {
            int first = drawn(next(seed));
            int second = drawn(next(next(seed)));
            due.is("0 has none, seed " + seed, oneTown("p?5", 0, 5).go(seed, 1), first < 5 ? 1 : 0);
            due.is("0 has one, seed " + seed, oneTown("p?5", 1, 5).go(seed, 1), second < 5 ? 1 : 0);
        }
    }

    /** "(z is SEED as hours begin, and goes on.)" */
    private static void seedsGoOnFromHourToHour() {
        for (int seed = 0; seed < 30; seed++) {
            int first = drawn(next(seed)) < 6 ? 1 : 0;
            int second = drawn(next(next(seed))) < 6 ? 1 : 0;
            HatRank x = oneTown("6", 9);
            due.is("two hours, seed " + seed, x.go(seed, 2), first + second);
            HatRank y = oneTown("6", 9);
            due.is("an hour, seed " + seed, y.go(seed, 1), first);
            due.is("another one, which begins anew", y.go(seed, 1), first);
        }
    }

    /** "the next one by numbers (from its own on, round) who is at the same PLACE". */
    private static void landingOnTheNextRound() {
        for (int one = 0; one < 6; one++) {
            for (int other = 0; other < 6; other++) {
                if (one != other) {
                    HatRank x = House.town("p=" + one + "?12", 0, 0);
                    for (int p = 0; p < 6; p++) {
                        x.person(20, p == one || p == other ? 0 : 1);
                    }
                    due.is("go", x.go(0, 1), 1);
                    due.is("led", x.led(one), other);
                    due.is("HATS", x.of(other, 0), 3);
                }
            }
            HatRank y = oneTown("p=" + one + "?12", 2, 2, 2, 2, 2, 2);
            y.go(0, 1);
            due.is("all are there", y.led(one), one == 5 ? 0 : one + 1);
        }
    }

    /** "and has fewer than 9 HATS". */
    private static void landingBelowNine() {
        for (int has = 0; has <= 9; has++) {
            HatRank x = oneTown("p=0?12", 3, has, 4);
            due.is("go", x.go(0, 1), 1);
            due.is("the next has " + has, x.led(0), has < 9 ? 1 : 2);
            hats("the next had " + has, x, 2, Math.min(9, has + 1), has < 9 ? 4 : 5);
        }
    }

    /** "on the first one by numbers at DOWN of the PLACE .. with fewer than 9; if there is none, it is LYING there". */
    private static void landingDownBelowNine() {
        for (int has = 0; has <= 9; has++) {
            HatRank x = House.town("p=0?12", 0, 0);
            x.mend(0, 2, 1);
            x.person(30, 0);
            x.person(10 * has, 1);
            x.person(90, 0);
            due.is("go", x.go(0, 1), 1);
            due.is("who is down has " + has, x.led(0), has < 9 ? 1 : NOT);
            due.is("LYING down", x.of(1, 12), has < 9 ? 0 : 1);
            due.is("LYING at the place", x.of(0, 12), 0);
        }
    }

    /** "(not itself)": with what it has left it could have caught it. */
    private static void notOnItself() {
        for (int has : new int[] {1, 8, 9}) {
            HatRank x = oneTown("12", has);
            due.is("go", x.go(0, 1), 1);
            due.is("led", x.led(0), NOT);
            due.is("LYING", x.of(0, 12), 1);
            hats("less one", x, has - 1);
        }
    }

    /** "(if that is there and another one)", "(at the PLACE itself, if DOWN is not there or itself)". */
    private static void downThatIsThereOrNot() {
        for (int down = 0; down <= 6; down++) {
            HatRank x = House.town("12", 0, 0, 0);
            x.mend(1, 2, down);
            x.person(20, 1);
            due.is("go", x.go(0, 1), 1);
            int lies = down <= 2 ? down : 1;
            for (int place = 0; place < 3; place++) {
                due.is("DOWN " + down + ": LYING at " + place, x.of(place, 12), place == lies ? 1 : 0);
            }
        }
        // a DOWN of 3 comes to be there with the fourth PLACE
        HatRank x = House.town("12", 0, 0, 0);
        x.mend(1, 2, 3);
        x.person(20, 1);
        x.place(0);
        x.go(0, 1);
        due.is("LYING at the place that came", x.of(3, 12), 1);
    }

    /** At DOWN it is the first by numbers, from 0 on, not from one's own on. */
    private static void firstByNumbersDown() {
        for (int one = 0; one < 6; one++) {
            HatRank x = House.town("p=" + one + "?12", 0, 0);
            x.mend(0, 2, 1);
            for (int p = 0; p < 6; p++) {
                x.person(20, p == one ? 0 : 1);
            }
            x.go(0, 1);
            due.is("led of " + one, x.led(one), one == 0 ? 1 : 0);
        }
    }

    /** "BAD; NOT: there is no WAY". */
    private static void movingByWays() {
        due.is("PLACE", house.changes(1, "move", 0, 1).of(0, 2), 1);
        due.is("PLACE", house.changes(3, "move", 0, 3).of(0, 2), 3);
        due.is("PLACE", house.changes(4, "move", 0, 4).of(0, 2), 4);
        due.is("PLACE", house.changes(0, "move", 4, 0).of(4, 2), 0);
        due.is("PLACE", house.changes(2, "move", 3, 2).of(3, 2), 2);
        house.leaves(NOT, "move", 0, 0);
        house.leaves(NOT, "move", 0, 2);
        house.leaves(NOT, "move", 0, 5);
        house.leaves(NOT, "move", 4, 4);
        house.leaves(NOT, "move", 4, 5);
        for (int person : new int[] {-1, 5, 6, MIN, MAX}) {
            house.leaves(BAD, "move", person, 1);
        }
        for (int place : new int[] {-1, 6, 7, MIN, MAX}) {
            house.leaves(BAD, "move", 0, place);
        }
    }

    /** "(NOW stays)": no HOUR is wanted for it. */
    private static void movingWhenTheDayIsOver() {
        HatRank x = new Twins(due, () -> House.at(24)).changes(1, "move", 0, 1);
        due.is("NOW", x.count(3), 24);
    }

    private static void layingAtPlaces() {
        due.is("LYING", house.changes(1, "lay", 0).of(0, 12), 1);
        due.is("LYING", house.changes(3, "lay", 1).of(1, 12), 3);
        due.is("LYING", house.changes(2, "lay", 5).of(5, 12), 2);
        for (int place : new int[] {-1, 6, 7, MIN, MAX}) {
            house.leaves(BAD, "lay", place);
        }
    }

    private static HatRank lying(int n) {
        HatRank x = House.town("12", 0, 0);
        x.mend(0, 2, 1);
        x.person(90, 0);
        for (int i = 0; i < n; i++) {
            x.lay(1);
        }
        return x;
    }

    /** "FULL: 99", at each PLACE for itself. */
    private static void ninetyNineLying() {
        new Twins(due, () -> lying(97)).changes(98, "lay", 1);
        due.is("LYING", new Twins(due, () -> lying(98)).changes(99, "lay", 1).of(1, 12), 99);
        Twins full = new Twins(due, () -> lying(99));
        full.leaves(FULL, "lay", 1);
        full.leaves(BAD, "lay", 2);
        full.changes(1, "lay", 0);
    }

    /** What falls is LYING there, however many are: only lay() has a bound. */
    private static void theWindLaysOn() {
        HatRank x = new Twins(due, () -> lying(99)).changes(1, "go", 0, 1);
        due.is("LYING", x.of(1, 12), 100);
        due.is("lay above 99", x.lay(1), FULL);
        due.is("LYING still", x.of(1, 12), 100);
        x.mend(0, 2, 0);
        x.person(0, 1);
        x.person(0, 1);
        Due.law(x, "0");
        x.go(0, 1);
        due.is("two were taken up", x.of(1, 12), 98);
        due.is("lay below 99", x.lay(1), 99);
        due.is("lay at 99", x.lay(1), FULL);
    }

    /** "Who COMMANDS. STATE: nobody is there"; RANK: "more HATS, or as many and a lesser number". */
    private static void whoCommands() {
        new Twins(due, HatRank::new).leaves(STATE, "commands");
        new Twins(due, () -> House.town("", 0, 0)).leaves(STATE, "commands");
        new Twins(due, () -> oneTown("", 0)).leaves(0, "commands");
        new Twins(due, () -> oneTown("", 0, 0)).leaves(0, "commands");
        new Twins(due, () -> oneTown("", 0, 1)).leaves(1, "commands");
        new Twins(due, () -> oneTown("", 8, 8, 9, 9)).leaves(2, "commands");
        new Twins(due, () -> oneTown("", 9, 9, 9, 9, 9, 9)).leaves(0, "commands");
        new Twins(due, () -> oneTown("", 1, 1, 1, 1, 1, 2)).leaves(5, "commands");
        house.leaves(2, "commands");
        Twins alike = new Twins(due, () -> oneTown("", 4, 4, 4, 4, 4, 4));
        for (int p = 0; p < 6; p++) {
            alike.leaves(p, "of", p, 3);
        }
    }

    /** "itself: it did not fall; NOT: it is LYING"; else on whom. */
    private static void ledOfWhom() {
        house.leaves(NOT, "led", 0);
        house.leaves(1, "led", 1);
        house.leaves(2, "led", 2);
        house.leaves(3, "led", 3);
        for (int person : new int[] {-1, 5, 6, MIN, MAX}) {
            house.leaves(BAD, "led", person);
        }
        HatRank x = oneTown("12", 1, 0, 0);
        x.go(0, 1);
        due.is("on the next", x.led(0), 1);
        due.is("on the next again", x.led(1), 2);
        due.is("round", x.led(2), 0);
        // of one without HATS nothing fell
        HatRank y = oneTown("p=1?12", 0, 1);
        y.go(0, 1);
        due.is("itself, without HATS", y.led(0), 0);
        due.is("round", y.led(1), 0);
    }

    /** "STATE: no HOUR yet, or it came since"; refused hours and hours in thought are none. */
    private static void ledBeforeAndSince() {
        house.leaves(STATE, "led", 4);
        HatRank x = oneTown("12", 3, 3);
        due.is("no hour yet", x.led(0), STATE);
        x.go(0, 25);
        x.ahead(0, 1, 0, 0);
        x.storm(0);
        due.is("still none", x.led(0), STATE);
        due.is("BAD", x.led(2), BAD);
        x.go(0, 1);
        due.is("an hour", x.led(1), 0);
        Due.row(x, 0, 0, 1, 1, 0);
        x.people(0, 0, 1);
        due.is("came since", x.led(2), STATE);
        due.is("was there", x.led(0), 1);
        House.calmHours(x, 22);
        due.is("came ahead of the latest", x.led(2), 2);
        due.is("of the latest alone", x.led(0), 0);
        x.go(0, 1);
        x.person(10, 0);
        due.is("at NOW 24", x.led(2), 2);
        due.is("came at NOW 24", x.led(3), STATE);
        x.go(0, 1);
        due.is("no hour is left for it", x.led(3), STATE);
    }
}
