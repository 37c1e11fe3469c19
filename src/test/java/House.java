/** A town in which something of everything stands, each answer known by hand: the law leaves nothing to draws. */
final class House {
    private House() {
    }

    /**
     * PLACES 0 .. 5: LEE 0 2 9 5 4 3, DOWN 1 6 2 3 4 5, LYING 0 2 1 0 0 1; WAYS 0-1, 1-2, 2-3, 3-0, 0-4. PEOPLE 0 .. 4:
     * HATS 2 6 9 2 1, BRIM 2 7 0 5 5, at 0 4 1 3 4. NOW 5. BLOW 3, of HOUR 6 it is 8. Five changes may be undone, two
     * done again. The image is of NOW 3, ahead of PLACE 5 and PERSON 4. Bodies 0 .. 7 are of their numbers' kinds.
     */
    static HatRank mixed() {
        HatRank x = new HatRank();
        for (int lee : new int[] {0, 2, 9, 1, 4}) {
            x.place(lee);
        }
        for (int way : new int[] {1, 12, 23, 30, 4}) {
            x.way(way);
        }
        x.person(62, 0);
        x.person(31, 0);
        x.person(90, 1);
        x.person(5, 3);
        Due.law(x, "p=0?12");
        mendings(x);
        x.lay(0);
        x.lay(3);
        x.lay(3);
        x.go(7, 3);
        x.image();
        sinceTheImage(x);
        shelves(x);
        return x;
    }

    private static void mendings(HatRank x) {
        x.mend(0, 2, 1);
        x.mend(1, 2, 6);
        x.mend(3, 1, 5);
        x.mend(1, 0, 7);
        x.mend(6, 3, 8);
        x.mend(7, 3, 9);
        x.mend(4, 1, 0);
        x.undo();
        x.undo();
    }

    private static void sinceTheImage(HatRank x) {
        x.move(1, 4);
        x.lay(2);
        x.go(9, 2);
        x.place(3);
        x.lay(5);
        x.person(15, 4);
    }

    /** Shelves 0 .. 3: rows of bytes, shorts, ints, longs; 4: body 5; 5: nothing. The tape holds "p*3". */
    private static void shelves(HatRank x) {
        for (int kind = 0; kind < 8; kind++) {
            x.body(kind);
        }
        Due.row(x, 0, 0, 3, 4, 1, 9, 0, 0, 2, 2);
        Due.row(x, 1, 1, 300, -1, 7);
        Due.row(x, 2, 2, 70000, 5);
        Due.row(x, 3, 3, 1L << 40, -9, 8);
        x.keep(4, 5);
        x.act(5, 3, 9);
        Due.feed(x, "p*3");
    }

    /** The mixed town in a later HOUR: as many calm hours went by. */
    static HatRank at(int now) {
        HatRank x = mixed();
        calmHours(x, now - x.count(3));
        return x;
    }

    /** Places by their lees, with a law; without one if it is empty. */
    static HatRank town(String law, int... lees) {
        HatRank x = new HatRank();
        for (int lee : lees) {
            x.place(lee);
        }
        if (!law.isEmpty()) {
            Due.law(x, law);
        }
        return x;
    }

    /** As many hours as are wanted, in which nothing falls: the tape is empty then, and the law 0. */
    static void calmHours(HatRank x, int n) {
        x.law();
        Due.law(x, "0");
        x.go(0, n);
    }
}
