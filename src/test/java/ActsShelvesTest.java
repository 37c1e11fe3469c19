/** Promises 28 to 36: body, act, trace, keep, row, put, element, shift, taken. */
public final class ActsShelvesTest {
    private static final int BAD = -1, FULL = -3;
    private static final long NO_VALUE = Long.MIN_VALUE;
    private static final int[] ABOVE = {-1, 0, 0, 2, 1, 3, 0, 6};
    private static final Due due = new Due();

    public static void main(String[] args) {
        bodies();
        acts();
        traces();
        noTrace();
        keeps();
        rows();
        puts();
        lowestBits();
        shifts();
        shiftRefusals();
        takings();
        due.end();
    }

    private static void bodies() {
        HatRank x = new HatRank();
        due.is("body(-1)", x.body(-1), BAD);
        due.is("body(8)", x.body(8), BAD);
        for (int i = 0; i < 50; i++) {
            due.is("body", x.body(i % 8), i);
        }
        due.is("a 51st", x.body(0), FULL);
        due.is("a 51st that is bad", x.body(8), BAD);
        due.is("count(6)", x.count(6), 50);
        due.is("the last one sits", x.act(49, 0, 1), 1 + 49 + 3);
    }

    /** One body of each kind, so that a body's number is its kind. */
    private static HatRank eachKind() {
        HatRank x = new HatRank();
        for (int kind = 0; kind < 8; kind++) {
            x.body(kind);
        }
        return x;
    }

    private static void acts() {
        HatRank x = eachKind();
        for (int v : new int[] {0, 1, 5, -7, 1000, Integer.MAX_VALUE, Integer.MIN_VALUE, 0x7ffffff0}) {
            int[] sits = {v, v + 1 + 3, v + 2, v + 3, v + 4 + 3, v + 5, (v + 6) * 2, (v + 7) * 2 - 1};
            int[] falls = {v * 2, (v + 4) * 2, -((v + 2) * 2), -((v + 1 + 3) * 2), (v + 7) * 2, -((v + 1 + 5) * 2),
                (v + 6) * 2 * 2, ((v + 7) * 2 - 1) * 2 + (2 ^ 7)};
            int[] lands = {v, v ^ 1, v ^ 2, (v ^ 3) * 3, v ^ 4, (v ^ 5) * 3 - (2 + 5), v ^ 6, v ^ 7};
            int[] landsOf1 = {1, 0, 1 ^ 2, (1 ^ 3) * 3, 1 ^ 4, (1 ^ 5) * 3 - 7, 1 ^ 6, 1 ^ 7};
            for (int kind = 0; kind < 8; kind++) {
                int ranks = falls[kind] - landsOf1[kind];
                ranks = kind == 4 ? ranks ^ 5 : kind == 5 ? ranks + 1 : ranks;
                due.is("sits " + kind + " with " + v, x.act(kind, 0, v), sits[kind]);
                due.is("falls " + kind + " with " + v, x.act(kind, 1, v), falls[kind]);
                due.is("lands " + kind + " with " + v, x.act(kind, 2, v), lands[kind]);
                due.is("ranks " + kind + " with " + v, x.act(kind, 3, v), ranks);
            }
        }
    }

    private static void traces() {
        trace(0, 0, 1);
        trace(0, 1, 10, 1);
        trace(0, 2, 11);
        trace(0, 3, 2, 10, 1, 11);
        trace(1, 0, 20, 1);
        trace(1, 1, 10, 20, 1);
        trace(1, 2, 11);
        trace(1, 3, 2, 10, 20, 1, 11);
        trace(2, 0, 1);
        trace(2, 1, 30, 10, 1);
        trace(2, 2, 11);
        trace(2, 3, 2, 30, 10, 1, 11);
        trace(3, 0, 1);
        trace(3, 1, 41, 30, 10, 1);
        trace(3, 2, 40, 11);
        trace(3, 3, 2, 41, 30, 10, 1, 40, 11);
        trace(4, 0, 20, 1);
        trace(4, 1, 10, 20, 1);
        trace(4, 2, 11);
        trace(4, 3, 50, 2, 10, 20, 1, 11);
        trace(5, 0, 1);
        trace(5, 1, 41, 30, 10, 1);
        trace(5, 2, 60, 40, 11, 1);
        trace(5, 3, 61, 2, 41, 30, 10, 1, 60, 40, 11, 1);
        trace(6, 0, 70, 1);
        trace(6, 1, 10, 70, 1);
        trace(6, 2, 11);
        trace(6, 3, 2, 10, 70, 1, 11);
        trace(7, 0, 81, 70, 1);
        trace(7, 1, 80, 10, 81, 70, 1, 11);
        trace(7, 2, 11);
        trace(7, 3, 2, 80, 10, 81, 70, 1, 11, 11);
    }

    private static void trace(int kind, int act, int... ran) {
        HatRank x = eachKind();
        x.act(5, 3, 1);
        x.act(kind, act, 9);
        String what = "act(" + kind + ", " + act + ")";
        due.is(what + ": count(7)", x.count(7), ran.length);
        for (int i = 0; i < ran.length; i++) {
            due.is(what + ": trace(" + i + ")", x.trace(i), ran[i]);
        }
        due.is(what + ": trace behind its end", x.trace(ran.length), BAD);
        due.is(what + ": trace(-1)", x.trace(-1), BAD);
    }

    private static void noTrace() {
        HatRank x = eachKind();
        due.is("trace at first", x.trace(0), BAD);
        int[][] none = {{8, 0}, {-1, 0}, {0, 4}, {0, -1}, {Integer.MAX_VALUE, 0}, {0, Integer.MIN_VALUE}};
        for (int[] n : none) {
            x.act(7, 3, 5);
            due.is("act(" + n[0] + ", " + n[1] + ")", x.act(n[0], n[1], 5), 0);
            due.is("trace(0)", x.trace(0), BAD);
            due.is("count(7)", x.count(7), 0);
        }
        x.act(0, 0, 5);
        due.is("trace(MAX)", x.trace(Integer.MAX_VALUE), BAD);
        due.is("trace(24)", x.trace(24), BAD);
    }

    private static void keeps() {
        HatRank x = eachKind();
        due.is("keep(0, 0)", x.keep(0, 0), 1);
        due.is("keep(5, 7)", x.keep(5, 7), 1);
        due.is("keep(0, 8)", x.keep(0, 8), BAD);
        due.is("keep(0, -2)", x.keep(0, -2), BAD);
        due.is("keep(6, 0)", x.keep(6, 0), BAD);
        due.is("keep(-1, 0)", x.keep(-1, 0), BAD);
        due.is("keep(-1, -1)", x.keep(-1, -1), BAD);
        due.is("it is still there", x.taken(0, 0), 0);
        due.is("another one", x.keep(0, 3), 1);
        due.is("its kind", x.taken(0, 0), 3);
        due.is("nothing", x.keep(0, -1), 1);
        due.is("nothing is there", x.taken(0, 0), -11);
        due.is("nothing again", x.keep(0, -1), 1);
        x.row(0, 2, 4);
        x.put(0, 1, 5);
        x.keep(0, 2);
        due.is("a body instead of a row", x.put(0, 1, 5), -12);
        x.keep(0, -1);
        due.is("nothing instead of a row", x.put(0, 1, 5), -11);
    }

    private static void rows() {
        HatRank x = new HatRank();
        due.is("row(6, 0, 1)", x.row(6, 0, 1), BAD);
        due.is("row(-1, 0, 1)", x.row(-1, 0, 1), BAD);
        due.is("row(0, 5, 1)", x.row(0, 5, 1), BAD);
        due.is("row(0, -1, 1)", x.row(0, -1, 1), BAD);
        due.is("row(0, 0, 61)", x.row(0, 0, 61), BAD);
        due.is("row(0, 0, MAX)", x.row(0, 0, Integer.MAX_VALUE), BAD);
        due.is("row(0, 0, -1)", x.row(0, 0, -1), -14);
        due.is("row(0, 0, MIN)", x.row(0, 0, Integer.MIN_VALUE), -14);
        due.is("BAD ahead of -14", x.row(0, 5, -1), BAD);
        due.is("BAD ahead of -14", x.row(6, 0, -1), BAD);
        due.is("nothing is there still", x.put(0, 0, 0), -11);
        for (int sort = 0; sort < 5; sort++) {
            due.is("row of sort " + sort, x.row(sort, sort, 60), 1);
            for (int i = 0; i < 60; i++) {
                due.is("0 at first", x.element(sort, i), 0);
                x.put(sort, i, 1);
            }
            due.is("no 61st", x.element(sort, 60), NO_VALUE);
        }
        due.is("a new row", x.row(3, 3, 30), 1);
        due.is("0 at first again", x.element(3, 29), 0);
        due.is("a shorter one", x.element(3, 30), NO_VALUE);
        x.row(3, 3, 60);
        due.is("0 at first once more", x.element(3, 30), 0);
        due.is("a refused one changes nothing", x.row(2, 2, -1), -14);
        due.is("the old row stays", x.element(2, 59), 1);
        due.is("a row of none", x.row(5, 0, 0), 1);
        due.is("it has no place", x.put(5, 0, 1), -13);
    }

    private static void puts() {
        HatRank x = eachKind();
        due.is("put(6, 0, 1)", x.put(6, 0, 1), BAD);
        due.is("put(-1, 0, 1)", x.put(-1, 0, 1), BAD);
        due.is("put on nothing", x.put(0, 0, 1), -11);
        due.is("-11 ahead of -13", x.put(0, 99, 1), -11);
        x.keep(0, 0);
        due.is("put on a body", x.put(0, 0, 1), -12);
        due.is("-12 ahead of -13", x.put(0, -1, 1), -12);
        x.row(0, 3, 3);
        for (int i : new int[] {-1, 3, 60, Integer.MAX_VALUE, Integer.MIN_VALUE}) {
            due.is("put(0, " + i + ", 1)", x.put(0, i, 1), -13);
            due.is("element(0, " + i + ")", x.element(0, i), NO_VALUE);
        }
        due.is("put", x.put(0, 2, 77), 1);
        due.is("element", x.element(0, 2), 77);
        due.is("another element", x.element(0, 1), 0);
        due.is("element(6, 0)", x.element(6, 0), NO_VALUE);
        due.is("element(-1, 0)", x.element(-1, 0), NO_VALUE);
        due.is("element of nothing", x.element(1, 0), NO_VALUE);
        x.keep(1, 0);
        due.is("element of a body", x.element(1, 0), NO_VALUE);
    }

    private static void lowestBits() {
        long[] values = {0, 1, -1, 127, 128, 255, 256, 32767, 32768, 65536, 1L << 31, 1L << 32, (1L << 31) - 1,
            Long.MAX_VALUE, Long.MIN_VALUE, Long.MIN_VALUE + 1, 0x1234567890abcdefL};
        HatRank x = new HatRank();
        for (int sort = 0; sort < 5; sort++) {
            x.row(sort, sort, 1);
        }
        for (long v : values) {
            for (int sort = 0; sort < 5; sort++) {
                due.is("put", x.put(sort, 0, v), 1);
            }
            due.is("byte of " + v, x.element(0, 0), (byte) v);
            due.is("short of " + v, x.element(1, 0), (short) v);
            due.is("int of " + v, x.element(2, 0), (int) v);
            due.is("long of " + v, x.element(3, 0), v);
            due.is("boolean of " + v, x.element(4, 0), v != 0 ? 1 : 0);
        }
    }

    private static void elements(String what, HatRank x, int shelf, long... want) {
        for (int i = 0; i < want.length; i++) {
            due.is(what + ": element " + i, x.element(shelf, i), want[i]);
        }
    }

    private static void shifts() {
        HatRank x = new HatRank();
        Due.row(x, 0, 2, 1, 2, 3, 4, 5);
        Due.row(x, 1, 2, 6, 7, 8);
        due.is("shift", x.shift(0, 1, 1, 0, 2), 2);
        elements("to another", x, 1, 2, 3, 8);
        elements("the one it came from", x, 0, 1, 2, 3, 4, 5);
        due.is("shift up", x.shift(0, 0, 0, 1, 4), 4);
        elements("up", x, 0, 1, 1, 2, 3, 4);
        Due.row(x, 0, 2, 1, 2, 3, 4, 5);
        due.is("shift down", x.shift(0, 1, 0, 0, 4), 4);
        elements("down", x, 0, 2, 3, 4, 5, 5);
        due.is("none", x.shift(0, 2, 1, 1, 0), 0);
        due.is("none, at the ends", x.shift(0, 5, 1, 3, 0), 0);
        due.is("onto itself", x.shift(0, 2, 0, 2, 3), 3);
        elements("as they were", x, 0, 2, 3, 4, 5, 5);
        for (int sort = 0; sort < 5; sort++) {
            Due.row(x, 2, sort, 1, 0, 1);
            x.row(3, sort, 60);
            due.is("sort " + sort, x.shift(2, 0, 3, 57, 3), 3);
            due.is("the last", x.element(3, 59), 1);
        }
    }

    private static void shiftRefusals() {
        HatRank x = eachKind();
        Due.row(x, 0, 2, 1, 2, 3, 4, 5);
        Due.row(x, 1, 2, 6, 7, 8);
        Due.row(x, 2, 1, 6, 7, 8);
        x.keep(3, 0);
        x.keep(4, 0);
        due.is("shelf 6", x.shift(6, 0, 1, 0, 1), BAD);
        due.is("shelf -1", x.shift(-1, 0, 1, 0, 1), BAD);
        due.is("other 6", x.shift(0, 0, 6, 0, 1), BAD);
        due.is("BAD ahead of -11", x.shift(5, 0, 6, 0, 1), BAD);
        due.is("from nothing", x.shift(5, 0, 1, 0, 1), -11);
        due.is("to nothing", x.shift(0, 0, 5, 0, 1), -11);
        due.is("-11 ahead of -12", x.shift(3, 0, 5, 0, 1), -11);
        due.is("-11 ahead of -12", x.shift(5, 0, 3, 0, 1), -11);
        due.is("from a body", x.shift(3, 0, 1, 0, 1), -12);
        due.is("to a body", x.shift(0, 0, 3, 0, 1), -12);
        due.is("from body to body", x.shift(3, 0, 4, 0, 1), -12);
        due.is("of unlike sorts", x.shift(0, 0, 2, 0, 1), -12);
        due.is("of unlike sorts, none", x.shift(0, 0, 2, 0, 0), -12);
        due.is("-12 ahead of -13", x.shift(0, 9, 2, 0, 1), -12);
        due.is("i behind", x.shift(0, 3, 1, 0, 3), -13);
        due.is("j behind", x.shift(0, 0, 1, 1, 3), -13);
        due.is("i below 0", x.shift(0, -1, 1, 0, 1), -13);
        due.is("j below 0", x.shift(0, 0, 1, -1, 1), -13);
        due.is("n below 0", x.shift(0, 1, 1, 1, -1), -13);
        due.is("n too great", x.shift(0, 0, 1, 0, Integer.MAX_VALUE), -13);
        due.is("i too great", x.shift(0, Integer.MAX_VALUE, 1, 0, 1), -13);
        due.is("sums that wrap", x.shift(0, Integer.MAX_VALUE, 1, Integer.MAX_VALUE, Integer.MAX_VALUE), -13);
        due.is("least of all", x.shift(0, Integer.MIN_VALUE, 1, Integer.MIN_VALUE, Integer.MIN_VALUE), -13);
        elements("nothing changed", x, 0, 1, 2, 3, 4, 5);
        elements("nothing changed", x, 1, 6, 7, 8);
    }

    private static void takings() {
        HatRank x = eachKind();
        for (int kind = 0; kind < 8; kind++) {
            x.keep(0, kind);
            for (int k = 0; k < 8; k++) {
                boolean under = false;
                for (int up = kind; up >= 0; up = ABOVE[up]) {
                    under |= up == k;
                }
                due.is("kind " + kind + " taken for " + k, x.taken(0, k), under ? kind : -12);
            }
        }
        due.is("taken(0, 8)", x.taken(0, 8), BAD);
        due.is("taken(0, -1)", x.taken(0, -1), BAD);
        due.is("taken(6, 0)", x.taken(6, 0), BAD);
        due.is("taken(-1, 0)", x.taken(-1, 0), BAD);
        due.is("nothing", x.taken(1, 0), -11);
        due.is("BAD ahead of -11", x.taken(1, 8), BAD);
        x.row(1, 0, 3);
        due.is("a row", x.taken(1, 0), -12);
    }
}
