/** Promises 15 to 23: risk, walk, chance, mean, stand, heavy, ahead, storm, seeded. */
public final class ThoughtTest {
    private static final int BAD = -1, NOT = -2, STATE = -5;
    private static final long NO_VALUE = Long.MIN_VALUE;
    private static final Due due = new Due();

    public static void main(String[] args) {
        risks();
        risksByOthersAndHours();
        walksInOrder();
        riskRefusals();
        chances();
        chancesOfTwoHours();
        chancesWithLanding();
        meansAndTaking();
        chanceRefusals();
        stands();
        standsForHats();
        heavies();
        aheads();
        storms();
        seededRows();
        seedsTo99();
        seededRefusals();
        thoughtsChangeNothing();
        due.end();
    }

    private static HatRank town(String law, int... lees) {
        HatRank x = new HatRank();
        for (int lee : lees) {
            x.place(lee);
        }
        if (!law.isEmpty()) {
            due.is("law " + law, Due.law(x, law), 1);
        }
        return x;
    }

    private static void walk(String what, HatRank x, int p, int pt, int... places) {
        for (int h = 0; h < places.length; h++) {
            due.is(what + ": walk in hour " + (x.count(3) + h), x.walk(p, pt, x.count(3) + h), places[h]);
        }
    }

    private static void fraction(String what, HatRank x, int p, int y, long above, long below) {
        due.is(what + ": chance above", x.chance(p, y, 0), above);
        due.is(what + ": chance below", x.chance(p, y, 1), below);
    }

    private static void meanIs(String what, HatRank x, int p, int y, long above, long below) {
        due.is(what + ": mean above", x.mean(p, y, 0), above);
        due.is(what + ": mean below", x.mean(p, y, 1), below);
    }

    private static void risks() {
        HatRank x = town("", 0, 3, 1, 0);
        x.way(1);
        x.way(12);
        x.person(20, 0);
        // numbers: 5 at 0, 2 at 1, 4 at 2, 5 at 3
        due.is("where it is, NOW", x.risk(0, 0), 5);
        due.is("where it is, in three", x.risk(0, 2), 5 + 2 + 5);
        due.is("next to it", x.risk(0, 101), 5 + 2);
        due.is("two ways off in one", x.risk(0, 201), NOT);
        due.is("two ways off", x.risk(0, 202), 5 + 2 + 4);
        due.is("two ways off, later", x.risk(0, 205), 5 + 2 * 4 + 4);
        due.is("no way", x.risk(0, 323), NOT);
        due.is("as late as can be", x.risk(0, 123), 5 + 2 * 23);
        walk("two ways off, later", x, 0, 205, 0, 1, 1, 1, 1, 2);
        due.is("walk of no way", x.walk(0, 323, 5), NOT);
        x.go(0, 20);
        x.place(0);
        int hats = x.of(0, 0);
        due.is("from NOW on", x.risk(0, 21), hats > 0 ? 2 * (3 + hats) : 0);
    }

    private static void risksByOthersAndHours() {
        // others where they are: 2 at place 1, none at place 0 beside itself
        HatRank x = town("o*4+h", 0, 0);
        x.way(1);
        x.person(10, 0);
        x.person(10, 1);
        x.person(10, 1);
        due.is("stays", x.risk(0, 3), 0 + 1 + 2 + 3);
        due.is("goes at last", x.risk(0, 103), 0 + 1 + 2 + 11);
        due.is("held to 12", x.risk(0, 105), 0 + 1 + 2 + 3 + 4 + 12);
        due.is("others of 1: one here", x.risk(1, 101), 4 + 5);
        due.is("others of 1: one there", x.risk(1, 2), 4 + 5 + 6);
        // without HATS there is no risk
        HatRank y = town("12", 0, 0);
        y.way(1);
        y.person(0, 0);
        due.is("without HATS", y.risk(0, 110), 0);
        // the blow of the hour that it is there
        HatRank z = town("", 0, 9);
        z.way(1);
        z.person(10, 0);
        z.mend(1, 3, 9);
        z.mend(2, 3, 0);
        due.is("the wind of each hour", z.risk(0, 2), 4 + 1 + 1);
        walk("the wind of each hour", z, 0, 2, 0, 1, 0);
    }

    private static void walksInOrder() {
        // all rows are alike: the first by numbers
        HatRank x = town("1", 0, 0, 0, 0);
        x.way(1);
        x.way(13);
        x.way(3);
        x.way(12);
        x.way(23);
        x.person(10, 3);
        walk("all alike", x, 0, 304, 3, 0, 0, 0, 3);
        walk("to 2", x, 0, 204, 3, 0, 0, 1, 2);
        walk("to 0", x, 0, 3, 3, 0, 0, 0);
        walk("NOW", x, 0, 300, 3);
        // first by numbers among the least, not the least by numbers
        HatRank y = town("g", 0, 1, 2, 0);
        y.way(1);
        y.way(2);
        y.way(13);
        y.way(23);
        y.person(10, 0);
        due.is("least", y.risk(0, 302), 3 + 1 + 3);
        walk("by 2", y, 0, 302, 0, 2, 3);
        y.mend(2, 1, 1);
        walk("by 1", y, 0, 302, 0, 1, 3);
    }

    private static void riskRefusals() {
        HatRank x = town("", 0, 0);
        x.person(10, 0);
        for (int pt : new int[] {24, 99, 200, 124, -1, -100, Integer.MIN_VALUE, Integer.MAX_VALUE}) {
            due.is("risk(0, " + pt + ")", x.risk(0, pt), BAD);
            due.is("walk(0, " + pt + ", 0)", x.walk(0, pt, 0), BAD);
        }
        due.is("risk(1, 0)", x.risk(1, 0), BAD);
        due.is("risk(-1, 0)", x.risk(-1, 0), BAD);
        due.is("walk(1, 0, 0)", x.walk(1, 0, 0), BAD);
        due.is("walk behind t", x.walk(0, 5, 6), BAD);
        due.is("walk(0, 5, MIN)", x.walk(0, 5, Integer.MIN_VALUE), BAD);
        due.is("BAD ahead of NOT", x.walk(0, 105, 6), BAD);
        due.is("NOT", x.walk(0, 105, 5), NOT);
        x.go(0, 4);
        due.is("t ahead of NOW", x.risk(0, 3), BAD);
        due.is("hour ahead of NOW", x.walk(0, 5, 3), BAD);
        due.is("hour NOW", x.walk(0, 5, 4), 0);
        x.go(0, 20);
        due.is("NOW 24", x.risk(0, 23), BAD);
        due.is("NOW 24, walk", x.walk(0, 23, 23), BAD);
    }

    private static void chances() {
        // by 5 of 12 the hat of 0 falls on 1, who never loses one
        HatRank x = town("p?0;5", 0);
        x.person(20, 0);
        x.person(10, 0);
        fraction("NOW", x, 0, 0, 1, 1);
        fraction("NOW, the other", x, 1, 0, 0, 1);
        fraction("one hour", x, 0, 1, 7, 12);
        fraction("one hour, the other", x, 1, 1, 5, 12);
        fraction("two hours", x, 0, 2, 49, 144);
        fraction("two hours, the other", x, 1, 2, 95, 144);
        meanIs("NOW", x, 0, 0, 2, 1);
        meanIs("one hour", x, 0, 1, 19, 12);
        meanIs("two hours", x, 0, 2, 7, 6);
        meanIs("two hours, the other", x, 1, 2, 11, 6);
    }

    private static void chancesOfTwoHours() {
        // alone, with one hat: it falls by 6 of 12 and is lying, and is taken up ahead of the next draw
        HatRank x = town("6", 0);
        x.person(10, 0);
        meanIs("alone, one hour", x, 0, 1, 1, 2);
        meanIs("alone, two hours", x, 0, 2, 1, 2);
        fraction("alone", x, 0, 2, 1, 1);
        // down the wind it is gone
        x.place(0);
        x.mend(0, 2, 1);
        meanIs("down, two hours", x, 0, 2, 1, 4);
        // 0: no hats at all, which is 0 by 1
        HatRank y = town("12", 0, 0);
        y.mend(0, 2, 1);
        y.person(10, 0);
        meanIs("gone", y, 0, 1, 0, 1);
        // the hour's number counts
        HatRank z = town("h", 0, 0);
        z.mend(0, 2, 1);
        z.person(90, 0);
        z.go(0, 3);
        long hats = z.of(0, 0);
        meanIs("hours 3 and 4", z, 0, 2, hats * 12 - 7, 12);
    }

    private static void chancesWithLanding() {
        // the hat of 0 falls by 1 of 12 on 1; with it 1 has two and surely loses one to 0
        HatRank x = town("p=0?1;n>1?12", 0);
        x.person(10, 0);
        x.person(10, 0);
        fraction("there and back", x, 0, 1, 1, 1);
        meanIs("there and back", x, 0, 1, 1, 1);
        // of three: 1 keeps by 3 of 12 what came by 4 of 12
        HatRank y = town("p=0?4;p=1?9", 0);
        y.person(10, 0);
        y.person(0, 0);
        y.person(0, 0);
        fraction("0 keeps", y, 0, 1, 2, 3);
        fraction("1 keeps", y, 1, 1, 1, 12);
        fraction("2 has it", y, 2, 1, 1, 4);
        // hats that lie about are taken up first
        HatRank z = town("0", 0, 0);
        z.person(20, 0);
        z.person(10, 1);
        z.lay(1);
        z.lay(1);
        fraction("NOW", z, 1, 0, 0, 1);
        fraction("as many", z, 1, 1, 0, 1);
        fraction("more", z, 1, 2, 1, 1);
        meanIs("two taken up", z, 1, 2, 3, 1);
    }

    private static void meansAndTaking() {
        // six people, 12 draws: the greatest whole there is, 12 to the 12th
        HatRank x = town("1", 0);
        for (int p = 0; p < 6; p++) {
            x.person(30, 0);
        }
        long above = 0;
        for (int p = 0; p < 6; p++) {
            above += x.chance(p, 2, 0) * (8916100448256L / x.chance(p, 2, 1));
        }
        due.is("all chances together", above, 8916100448256L);
        above = 0;
        for (int p = 0; p < 6; p++) {
            above += x.mean(p, 2, 0) * (8916100448256L / x.mean(p, 2, 1));
        }
        due.is("all means together", above, 18 * 8916100448256L);
    }

    private static void chanceRefusals() {
        HatRank x = town("", 0);
        x.person(20, 0);
        int[][] bad = {{1, 1, 0}, {-1, 1, 0}, {0, 3, 0}, {0, -1, 0}, {0, 1, 2}, {0, 1, -1}, {6, 0, 0},
            {Integer.MAX_VALUE, 0, 0}, {0, Integer.MIN_VALUE, 0}, {0, 0, Integer.MAX_VALUE}};
        for (int[] b : bad) {
            due.is("chance(" + b[0] + ", " + b[1] + ", " + b[2] + ")", x.chance(b[0], b[1], b[2]), NO_VALUE);
            due.is("mean(" + b[0] + ", " + b[1] + ", " + b[2] + ")", x.mean(b[0], b[1], b[2]), NO_VALUE);
        }
        x.go(0, 23);
        due.is("one hour is left", x.chance(0, 1, 1), 1);
        due.holds("one hour is left, mean", x.mean(0, 1, 1) > 0);
        due.is("one hour is left, stand", x.stand(0, 1), 0);
        due.is("two are not", x.chance(0, 2, 0), STATE);
        due.is("mean of two", x.mean(0, 2, 0), STATE);
        due.is("BAD ahead of STATE", x.chance(0, 2, 2), NO_VALUE);
        due.is("BAD ahead of STATE", x.mean(1, 2, 1), NO_VALUE);
        x.go(0, 1);
        due.is("none is left", x.chance(0, 0, 0), 1);
        due.is("one is not", x.mean(0, 1, 0), STATE);
    }

    private static void stands() {
        // numbers by gusts; 0 commands, unless its hat falls
        HatRank x = town("p?0;g*3", 0, 2, 3, 3, 1);
        x.person(10, 1);
        x.person(10, 4);
        due.is("y 0: its own", x.stand(0, 0), 1);
        due.is("the least of the best lees", x.stand(0, 1), 2);
        x.mend(1, 1, 5);
        due.is("its own, which is as good", x.stand(0, 2), 1);
        x.mend(2, 1, 9);
        due.is("its own, as a gust is not below 0", x.stand(0, 1), 1);
        due.is("stand(2, 1)", x.stand(2, 1), BAD);
        due.is("stand(-1, 1)", x.stand(-1, 1), BAD);
        due.is("stand(0, 3)", x.stand(0, 3), BAD);
        due.is("stand(0, -1)", x.stand(0, -1), BAD);
        x.go(1, 23);
        due.is("two hours are not left", x.stand(0, 2), STATE);
        due.is("BAD ahead of STATE", x.stand(2, 2), BAD);
    }

    private static void standsForHats() {
        // to rise one stands where hats lie, or where they land
        HatRank x = town("0", 0, 0, 0);
        x.person(20, 0);
        x.person(10, 0);
        x.lay(1);
        x.lay(2);
        x.lay(2);
        due.is("one hour does not do: its own", x.stand(1, 1), 0);
        due.is("two hours, two hats", x.stand(1, 2), 2);
        HatRank y = town("p?0;12", 0, 0, 0);
        y.mend(0, 2, 2);
        y.person(20, 0);
        y.person(10, 1);
        due.is("under the hat: at the place, ahead of down", y.stand(1, 1), 0);
        y.person(90, 0);
        y.mend(0, 0, 0);
        due.is("never above nine", y.stand(1, 1), 1);
        HatRank z = town("p?0;12", 0, 0, 0);
        z.mend(0, 2, 2);
        z.person(20, 0);
        z.person(10, 1);
        z.person(0, 1);
        // at its own place two more are under the hat: 2 is the next one by numbers behind 1
        due.is("of like ones the least", z.stand(1, 1), 0);
        due.is("chance stays that of its own place", z.chance(1, 1, 0), 0);
    }

    private static void heavies() {
        HatRank x = town("", 0, 2);
        x.person(40, 0);
        x.person(97, 1);
        x.mend(7, 3, 9);
        due.is("NOW, 0", x.heavy(0, 0), 7);
        due.is("NOW, 5", x.heavy(0, 5), 2);
        due.is("NOW, 12", x.heavy(0, 12), 0);
        due.is("hour 7, 4", x.heavy(0, 704), 9);
        due.is("hour 7, 3", x.heavy(0, 703), NOT);
        due.is("hour 23, 7", x.heavy(0, 2307), 0);
        due.is("its brim as it is does not matter", x.heavy(1, 3), 7);
        due.is("hour 7 in a lee", x.heavy(1, 709), 7);
        int[][] bad = {{2, 0}, {-1, 0}, {0, -1}, {0, 13}, {0, 99}, {0, 113}, {0, 2400}, {0, Integer.MAX_VALUE},
            {0, Integer.MIN_VALUE}};
        for (int[] b : bad) {
            due.is("heavy(" + b[0] + ", " + b[1] + ")", x.heavy(b[0], b[1]), BAD);
        }
        x.go(0, 24);
        x.image();
        due.is("an hour that is gone", x.heavy(0, 0), x.of(0, 0) == 0 ? 0 : Math.min(9, x.of(0, 0) + 3));
        due.is("BRIM stays", x.of(1, 1), 7);
        HatRank y = town("b=4?0;12", 0);
        y.person(10, 0);
        due.is("by a law that has a hole", y.heavy(0, 11), 4);
        Due.law(y, "12");
        due.is("by none", y.heavy(0, 11), NOT);
        due.is("12 does", y.heavy(0, 12), 0);
    }

    private static void aheads() {
        HatRank x = town("p=0?12", 0, 0);
        due.is("nobody", x.ahead(0, 1, -1, 1), STATE);
        due.is("nobody, LYING", x.ahead(0, 1, -1, 2), 0);
        x.person(30, 0);
        x.person(20, 1);
        x.mend(0, 2, 1);
        x.lay(0);
        due.is("HATS", x.ahead(0, 1, 0, 0), 3);
        due.is("HATS of the other", x.ahead(0, 3, 1, 0), 5);
        due.is("commands now", x.commands(), 0);
        due.is("commands then", x.ahead(0, 2, -1, 1), 1);
        due.is("LYING", x.ahead(0, 1, -1, 2), 0);
        x.lay(1);
        x.lay(1);
        due.is("LYING, one taken up", x.ahead(0, 1, -1, 2), 1);
        Due.law(x, "0");
        x.mend(0, 2, 0);
        due.is("HATS by taking up", x.ahead(0, 24, 1, 0), 4);
        int[][] bad = {{0, 0, 0}, {25, 0, 0}, {-1, 0, 0}, {1, 2, 0}, {1, -1, 0}, {1, 0, 1}, {1, 0, 2}, {1, -2, 1},
            {1, -1, 3}, {1, 0, 3}, {1, -1, -1}, {1, 0, -1}, {Integer.MAX_VALUE, 0, 0}, {1, 0, Integer.MIN_VALUE}};
        for (int[] b : bad) {
            due.is("ahead(0, " + b[0] + ", " + b[1] + ", " + b[2] + ")", x.ahead(0, b[0], b[1], b[2]), BAD);
        }
        x.go(0, 22);
        due.is("two hours are left", x.ahead(0, 2, 1, 0), 4);
        due.is("three are not", x.ahead(0, 3, 1, 0), STATE);
        due.is("BAD ahead of STATE", x.ahead(0, 3, 2, 0), BAD);
        due.is("BAD ahead of STATE", x.ahead(0, 25, 1, 0), BAD);
        // the same as in deed
        for (int seed = 0; seed < 20; seed++) {
            HatRank y = town("", 0, 2);
            y.person(31, 0);
            y.person(40, 0);
            y.person(12, 1);
            y.mend(0, 2, 1);
            int hats = y.ahead(seed, 7, 1, 0);
            int leader = y.ahead(seed, 7, -1, 1);
            int lying = y.ahead(seed, 7, -1, 2);
            y.go(seed, 7);
            due.is("HATS in deed", y.of(1, 0), hats);
            due.is("commands in deed", y.commands(), leader);
            due.is("LYING in deed", y.of(0, 12) + y.of(1, 12), lying);
        }
    }

    private static void storms() {
        HatRank x = town("p=0&g>14?12", 0, 9, 9);
        due.is("nobody", x.storm(0), STATE);
        x.person(20, 0);
        x.person(10, 1);
        x.mend(0, 2, 2);
        due.is("12 more", x.storm(0), 12);
        x.mend(23, 3, 9);
        // one hour of falling makes it as many, two make it fewer
        due.is("one hour does not do", x.storm(0), 12);
        x.mend(22, 3, 9);
        due.is("6 more, in hours 22 and 23", x.storm(0), 6);
        x.mend(0, 1, 8);
        due.is("14 more", x.storm(0), 14);
        x.mend(0, 1, 9);
        due.is("15 more", x.storm(0), 15);
        Due.law(x, "p=0&g>20?12");
        due.is("21 would do, 20 do not", x.storm(0), NOT);
        Due.law(x, "p=0&g>19?12");
        due.is("20 more", x.storm(0), 20);
        Due.law(x, "p=0?12");
        due.is("0 more", x.storm(0), 0);
        Due.law(x, "0");
        due.is("never", x.storm(0), NOT);
        due.is("BLOWS stay", x.of(0, 20), 3);
        Due.law(x, "g");
        due.is("GUSTS stay", x.of(0, 4), 0);
        Due.law(x, "p=0?12");
        x.go(0, 23);
        x.image();
        x.go(0, 1);
        due.is("NOW 24", x.storm(0), NOT);
        // hours ahead of NOW don't matter
        HatRank y = town("p=0&g>14?12", 0, 9, 9);
        y.person(10, 0);
        y.person(10, 1);
        y.mend(0, 2, 2);
        y.mend(2, 3, 9);
        due.is("by hour 2", y.storm(5), 6);
        y.go(5, 3);
        due.is("without hour 2", y.storm(5), 12);
    }

    private static void seededRows() {
        HatRank x = town("6", 0, 0);
        x.mend(0, 2, 1);
        x.person(20, 0);
        x.person(40, 1);
        Due.row(x, 0, 0, 2, 4);
        due.is("k 0, as they are", x.seeded(0, 0), 0);
        x.put(0, 1, 5);
        due.is("k 0, as they are not", x.seeded(0, 0), NOT);
        for (int k = 0; k <= 6; k++) {
            for (int hats = -1; hats <= 2; hats++) {
                Due.row(x, 1, 0, hats);
                due.is("k " + k + ", " + hats + " hats", x.seeded(1, k), leastSeed(x, hats, k));
            }
        }
        x.row(2, 0, 0);
        due.is("nothing is told", x.seeded(2, 24), 0);
        Due.row(x, 2, 0, 2, 4, 9, 9, 9, 9, 9, 9);
        due.is("what is behind PEOPLE", x.seeded(2, 0), 0);
        Due.law(x, "12");
        Due.row(x, 2, 0, 0);
        due.is("surely in two hours", x.seeded(2, 2), 0);
        due.is("surely not in one", x.seeded(2, 1), NOT);
    }

    /** With many hats in the wind each seed tells other hats: 99 is still looked at, 100 is not. */
    private static void seedsTo99() {
        HatRank x = town("6", 0, 0);
        for (int p = 0; p < 6; p++) {
            x.person(50, p % 2);
        }
        for (int seed = 98; seed <= 101; seed++) {
            x.row(0, 0, 6);
            for (int p = 0; p < 6; p++) {
                x.put(0, p, x.ahead(seed, 10, p, 0));
            }
            due.is("hats by seed " + seed, x.seeded(0, 10), seed <= 99 ? seed : NOT);
        }
    }

    private static int leastSeed(HatRank x, int hats, int k) {
        for (int seed = 0; seed < 100; seed++) {
            int then = k == 0 ? x.of(0, 0) : x.ahead(seed, k, 0, 0);
            if (then == hats) {
                return seed;
            }
        }
        return NOT;
    }

    private static void seededRefusals() {
        HatRank x = town("0", 0);
        x.person(20, 0);
        due.is("seeded(6, 0)", x.seeded(6, 0), BAD);
        due.is("seeded(-1, 0)", x.seeded(-1, 0), BAD);
        due.is("seeded(0, -1)", x.seeded(0, -1), BAD);
        due.is("seeded(0, 25)", x.seeded(0, 25), BAD);
        due.is("nothing on the shelf", x.seeded(0, 0), -11);
        for (int sort = 1; sort <= 4; sort++) {
            x.row(0, sort, 3);
            due.is("a row of sort " + sort, x.seeded(0, 0), -12);
        }
        x.body(0);
        x.keep(0, 0);
        due.is("a body", x.seeded(0, 0), -12);
        Due.row(x, 1, 0, 3);
        x.go(0, 20);
        due.is("not as many left", x.seeded(1, 5), STATE);
        due.is("-11 ahead of STATE", x.seeded(2, 5), -11);
        due.is("-12 ahead of STATE", x.seeded(0, 5), -12);
        due.is("NOT", x.seeded(1, 4), NOT);
        due.is("BAD ahead of STATE", x.seeded(1, 25), BAD);
    }

    private static void thoughtsChangeNothing() {
        HatRank x = town("", 0, 2, 1);
        x.way(1);
        x.way(12);
        x.person(31, 0);
        x.person(40, 0);
        x.person(12, 1);
        x.mend(0, 2, 1);
        x.lay(1);
        x.go(3, 2);
        String before = look(x);
        x.risk(0, 210);
        x.walk(1, 210, 5);
        x.chance(1, 2, 0);
        x.mean(2, 2, 0);
        x.stand(2, 2);
        x.heavy(1, 3);
        x.ahead(4, 20, -1, 1);
        x.storm(7);
        Due.row(x, 0, 0, 9, 9, 9);
        x.seeded(0, 9);
        due.holds("thoughts change nothing: " + before + " " + look(x), before.equals(look(x)));
    }

    private static String look(HatRank x) {
        StringBuilder seen = new StringBuilder();
        for (int p = 0; p < 3; p++) {
            for (int what = 0; what <= 4; what++) {
                seen.append(x.of(p, what)).append(' ');
            }
            seen.append(x.led(p)).append(", ");
        }
        for (int place = 0; place < 3; place++) {
            for (int what = 10; what <= 13; what++) {
                seen.append(x.of(place, what)).append(' ');
            }
        }
        for (int hour = 0; hour < 24; hour++) {
            seen.append(x.of(hour, 20));
        }
        return seen.append(" now ").append(x.count(3)).append(' ').append(x.count(5)).toString();
    }
}
