/** Promises 10 to 14: go, move, lay, commands, led; and what an hour does. */
public final class DeedTest {
    private static final int BAD = -1, NOT = -2, FULL = -3, STATE = -5;
    private static final Due due = new Due();

    public static void main(String[] args) {
        refusals();
        takingUp();
        landingAtThePlace();
        landingDown();
        lyingDown();
        lyingAtThePlace();
        hatsAsTheyAreThen();
        draws();
        seedsGoOn();
        nobodyThere();
        moves();
        lays();
        commanders();
        ledSince();
        due.end();
    }

    private static HatRank town(String law, int... downs) {
        HatRank x = new HatRank();
        for (int down : downs) {
            int place = x.place(0);
            x.mend(place, 2, down);
        }
        due.is("law " + law, Due.law(x, law), 1);
        return x;
    }

    private static void hats(String what, HatRank x, int... hats) {
        for (int p = 0; p < hats.length; p++) {
            due.is(what + ": HATS of " + p, x.of(p, 0), hats[p]);
        }
    }

    private static void refusals() {
        HatRank x = town("0", 0);
        x.person(50, 0);
        due.is("go(0, 0)", x.go(0, 0), BAD);
        due.is("go(0, -1)", x.go(0, -1), BAD);
        due.is("go(0, 25)", x.go(0, 25), BAD);
        due.is("go(0, MAX)", x.go(0, Integer.MAX_VALUE), BAD);
        due.is("go(0, 20)", x.go(0, 20), 0);
        due.is("NOW", x.count(3), 20);
        due.is("go(0, 5)", x.go(0, 5), STATE);
        due.is("BAD ahead of STATE", x.go(0, 25), BAD);
        due.is("NOW still", x.count(3), 20);
        due.is("go(0, 4)", x.go(0, 4), 0);
        due.is("NOW 24", x.count(3), 24);
        due.is("go(0, 1)", x.go(0, 1), STATE);
    }

    private static void takingUp() {
        HatRank x = town("0", 0, 1);
        x.person(90, 0);
        x.person(10, 0);
        x.person(0, 0);
        x.person(0, 0);
        x.person(0, 1);
        x.lay(0);
        x.lay(0);
        due.is("go", x.go(3, 1), 0);
        hats("taking up", x, 9, 2, 1, 0, 0);
        due.is("LYING", x.of(0, 12), 0);
        for (int i = 0; i < 5; i++) {
            x.lay(0);
        }
        x.go(3, 1);
        hats("one each", x, 9, 3, 2, 1, 0);
        due.is("LYING", x.of(0, 12), 2);
    }

    private static void landingAtThePlace() {
        // 1 falls on 3 (2 is elsewhere), 3 on 5, 5 round on 1
        HatRank x = town("p%2*12", 0, 1);
        int[] at = {1, 0, 1, 0, 1, 0};
        for (int p = 0; p < 6; p++) {
            x.person(p == 5 ? 10 : 30, at[p]);
        }
        due.is("go", x.go(0, 1), 3);
        hats("round", x, 3, 3, 3, 3, 3, 1);
        due.is("led(1)", x.led(1), 3);
        due.is("led(3)", x.led(3), 5);
        due.is("led(5)", x.led(5), 1);
        due.is("led(0)", x.led(0), 0);
        // who has 9 hats is passed by
        HatRank y = town("(p=0)*12", 0);
        y.person(20, 0);
        y.person(90, 0);
        y.person(80, 0);
        y.person(10, 0);
        due.is("go", y.go(0, 2), 2);
        hats("past nine", y, 0, 9, 9, 2);
        due.is("led(0)", y.led(0), 3);
    }

    private static void landingDown() {
        HatRank x = town("(p=2)*12", 1, 1);
        x.person(90, 1);
        x.person(80, 1);
        x.person(50, 0);
        x.person(30, 1);
        due.is("go", x.go(0, 1), 1);
        hats("the first one down", x, 9, 9, 4, 3);
        due.is("led(2)", x.led(2), 1);
        x.go(0, 1);
        hats("the next with fewer than nine", x, 9, 9, 3, 4);
        due.is("led(2)", x.led(2), 3);
    }

    private static void lyingDown() {
        HatRank x = town("(p=0)*12", 1, 2, 2);
        x.person(50, 0);
        x.person(90, 1);
        x.person(0, 2);
        due.is("go", x.go(0, 1), 1);
        due.is("led(0)", x.led(0), NOT);
        due.is("LYING at the place", x.of(0, 12), 0);
        due.is("LYING down", x.of(1, 12), 1);
        due.is("LYING further down", x.of(2, 12), 0);
        hats("lying down", x, 4, 9, 0);
        // in a place that nobody is at
        HatRank y = town("12", 1, 0);
        y.person(20, 0);
        due.is("go", y.go(0, 3), 2);
        due.is("LYING down", y.of(1, 12), 2);
        hats("all gone", y, 0);
        due.is("led(0) without hats", y.led(0), 0);
    }

    private static void lyingAtThePlace() {
        HatRank x = town("12", 0);
        x.person(20, 0);
        due.is("go", x.go(0, 1), 1);
        due.is("LYING where DOWN is itself", x.of(0, 12), 1);
        due.is("led(0)", x.led(0), NOT);
        due.is("go on", x.go(0, 1), 1);
        due.is("it is taken up, and falls", x.of(0, 12), 1);
        hats("itself", x, 1);
        HatRank y = town("12", 6);
        y.person(20, 0);
        y.go(0, 1);
        due.is("LYING where DOWN is not there", y.of(0, 12), 1);
        due.is("led(0)", y.led(0), NOT);
        // DOWN comes to be there
        HatRank z = town("12", 1);
        z.person(20, 0);
        z.place(0);
        z.go(0, 1);
        due.is("LYING where DOWN has come", z.of(1, 12), 1);
        due.is("LYING at the place", z.of(0, 12), 0);
    }

    private static void hatsAsTheyAreThen() {
        // a hat that lands on 1 makes it two, so that it falls on in the same hour
        HatRank x = town("n>1?12", 0);
        x.person(20, 0);
        x.person(10, 0);
        x.person(0, 0);
        due.is("go", x.go(0, 1), 2);
        hats("on", x, 1, 1, 1);
        due.is("led(0)", x.led(0), 1);
        due.is("led(1)", x.led(1), 2);
        due.is("led(2)", x.led(2), 2);
        // one that lands on somebody without hats falls on, too
        HatRank y = town("12", 0);
        y.person(10, 0);
        y.person(0, 0);
        y.person(0, 0);
        due.is("go", y.go(0, 1), 3);
        hats("round", y, 1, 0, 0);
        // one that is taken up counts already
        HatRank z = town("n>1?12", 1, 1);
        z.person(10, 0);
        z.lay(0);
        due.is("go", z.go(0, 1), 1);
        hats("taken up first", z, 1);
        due.is("LYING down", z.of(1, 12), 1);
    }

    private static int next(int z) {
        return z * 1103515245 + 12345;
    }

    private static int drawn(int z) {
        return (z >>> 8) % 12;
    }

    private static void draws() {
        for (int seed : new int[] {0, 1, -1, 7, 99, 123456789, Integer.MIN_VALUE, Integer.MAX_VALUE}) {
            for (int number = 0; number <= 12; number++) {
                HatRank x = town(Integer.toString(number), 1, 1);
                x.person(0, 0);
                x.person(90, 0);
                x.person(0, 1);
                x.mend(0, 2, 6);
                // who has no hats draws nothing: the first draw is that of 1, whose hat lands on 0
                int z = next(seed);
                boolean falls = drawn(z) < number;
                due.is("seed " + seed + ", number " + number, x.go(seed, 1), falls ? 1 : 0);
                due.is("led(1)", x.led(1), falls ? 0 : 1);
            }
        }
    }

    private static void seedsGoOn() {
        for (int seed = -3; seed < 30; seed++) {
            HatRank x = town("5", 1, 1);
            x.person(90, 0);
            int z = seed;
            int fallen = 0;
            for (int hour = 0; hour < 24; hour++) {
                if (fallen < 9) {
                    z = next(z);
                    fallen += drawn(z) < 5 ? 1 : 0;
                }
            }
            due.is("24 hours by " + seed, x.go(seed, 24), fallen);
            due.is("LYING", x.of(1, 12), fallen);
            due.is("HATS", x.of(0, 0), 9 - fallen);
        }
    }

    private static void nobodyThere() {
        HatRank x = new HatRank();
        due.is("go", x.go(1, 5), 0);
        due.is("NOW", x.count(3), 5);
        x.place(0);
        x.lay(0);
        due.is("go", x.go(1, 5), 0);
        due.is("LYING", x.of(0, 12), 1);
    }

    private static void moves() {
        HatRank x = town("0", 0, 1, 2);
        x.way(21);
        x.person(30, 0);
        x.person(30, 1);
        due.is("move(2, 0)", x.move(2, 0), BAD);
        due.is("move(-1, 0)", x.move(-1, 0), BAD);
        due.is("move(0, 3)", x.move(0, 3), BAD);
        due.is("move(0, -1)", x.move(0, -1), BAD);
        due.is("move(0, MAX)", x.move(0, Integer.MAX_VALUE), BAD);
        due.is("no way", x.move(0, 1), NOT);
        due.is("where it is", x.move(0, 0), NOT);
        due.is("a way", x.move(1, 2), 2);
        due.is("PLACE", x.of(1, 2), 2);
        due.is("the other way", x.move(1, 1), 1);
        due.is("PLACE", x.of(1, 2), 1);
        due.is("not by two ways", x.move(1, 0), NOT);
        due.is("PLACE of the other", x.of(0, 2), 0);
        due.is("NOW", x.count(3), 0);
    }

    private static void lays() {
        HatRank x = town("12", 0, 0);
        due.is("lay(2)", x.lay(2), BAD);
        due.is("lay(-1)", x.lay(-1), BAD);
        for (int i = 1; i <= 99; i++) {
            due.is("lay(0)", x.lay(0), i);
        }
        due.is("lay when full", x.lay(0), FULL);
        due.is("LYING", x.of(0, 12), 99);
        due.is("at the other place", x.lay(1), 1);
        x.person(90, 1);
        x.go(0, 1);
        due.is("the wind lays on", x.of(0, 12), 100);
        due.is("lay above 99", x.lay(0), FULL);
    }

    private static void commanders() {
        HatRank x = town("(p=0)*12", 0);
        due.is("nobody", x.commands(), STATE);
        x.person(30, 0);
        due.is("one", x.commands(), 0);
        x.person(30, 0);
        due.is("as many and a lesser number", x.commands(), 0);
        x.person(40, 0);
        due.is("more", x.commands(), 2);
        x.go(0, 2);
        hats("behind two hours", x, 1, 5, 4);
        due.is("by an hour", x.commands(), 1);
    }

    private static void ledSince() {
        HatRank x = town("12", 1, 1);
        x.person(20, 0);
        due.is("led(1)", x.led(1), BAD);
        due.is("led(-1)", x.led(-1), BAD);
        due.is("no hour yet", x.led(0), STATE);
        x.ahead(0, 3, 0, 0);
        x.storm(0);
        x.chance(0, 2, 0);
        due.is("no hour in deed yet", x.led(0), STATE);
        x.go(0, 2);
        due.is("led(0)", x.led(0), NOT);
        x.person(20, 1);
        due.is("came since", x.led(1), STATE);
        due.is("led(0) still", x.led(0), NOT);
        x.ahead(0, 3, 0, 0);
        due.is("came since, still", x.led(1), STATE);
        x.go(0, 1);
        due.is("an hour since", x.led(1), NOT);
        due.is("the latest hour alone", x.led(0), 0);
    }
}
