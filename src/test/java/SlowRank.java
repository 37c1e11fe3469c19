import java.lang.reflect.Array;
import java.math.BigInteger;
import java.util.ArrayList;
import java.util.Arrays;
import java.util.HashMap;
import java.util.List;
import java.util.Map;

/** The document told once more, slowly: with lists, whole states, great numbers, and the host's own refusals. */
final class SlowRank {
    static final int BAD = -1, NOT = -2, FULL = -3, STATE = -5;
    private static final long MIN = Long.MIN_VALUE;

    /** What hours change. */
    static final class State {
        List<Integer> hats = new ArrayList<>();
        List<Integer> at = new ArrayList<>();
        List<Integer> lying = new ArrayList<>();
        int now;
        int more;

        State copy() {
            State c = new State();
            c.hats.addAll(hats);
            c.at.addAll(at);
            c.lying.addAll(lying);
            c.now = now;
            c.more = more;
            return c;
        }

        void add(List<Integer> row, int i, int by) {
            row.set(i, row.get(i) + by);
        }
    }

    private State s = new State();
    private final List<Integer> brims = new ArrayList<>();
    private final List<Integer> lees = new ArrayList<>();
    private final List<Integer> downs = new ArrayList<>();
    private final List<Integer> blows = new ArrayList<>();
    private final List<Integer> leds = new ArrayList<>();
    private final List<int[]> ways = new ArrayList<>();
    private String tape = "";
    private String text;
    private State image;
    private final List<int[]> done = new ArrayList<>();
    private final List<int[]> undone = new ArrayList<>();
    private final List<SlowBodies.Hat> bodies = new ArrayList<>();
    private List<Integer> ran = new ArrayList<>();
    private final Object[] shelves = new Object[6];
    private int z;

    SlowRank() {
        for (int h = 0; h < 24; h++) {
            blows.add(3);
        }
    }

    private boolean isPerson(int p) {
        return p >= 0 && p < brims.size();
    }

    private boolean isPlace(int q) {
        return q >= 0 && q < lees.size();
    }

    private boolean isWay(int a, int b) {
        return ways.stream().anyMatch(w -> w[0] == a && w[1] == b || w[0] == b && w[1] == a);
    }

    public int place(int lee) {
        if (lee < 0 || lee > 9) return BAD;
        if (lees.size() == 7) return FULL;
        downs.add(lees.size());
        lees.add(lee);
        s.lying.add(0);
        return lees.size() - 1;
    }

    public int way(int ab) {
        int a = Math.floorDiv(ab, 10);
        int b = Math.floorMod(ab, 10);
        if (a == b || !isPlace(a) || !isPlace(b) || isWay(a, b)) return BAD;
        if (ways.size() == 12) return FULL;
        ways.add(new int[] {a, b});
        return ways.size();
    }

    public int person(int hb, int place) {
        if (hb < 0 || hb > 99 || !isPlace(place)) return BAD;
        if (brims.size() == 6) return FULL;
        s.hats.add(hb / 10);
        brims.add(hb % 10);
        s.at.add(place);
        leds.add(STATE);
        return brims.size() - 1;
    }

    public int people(int shelf, int i, int n) {
        if (shelf < 0 || shelf > 5 || n < 1 || n > 6) return BAD;
        if (shelves[shelf] != null && !(shelves[shelf] instanceof byte[])) return -12;
        byte[] row = (byte[]) shelves[shelf];
        int came = 0;
        try {
            while (came < n) {
                byte hats = row[i + 3 * came];
                byte brim = row[i + 3 * came + 1];
                byte place = row[i + 3 * came + 2];
                if (hats < 0 || hats > 9 || brim < 0 || brim > 9 || person(hats * 10 + brim, place) < 0) break;
                came++;
            }
        } catch (NullPointerException | ArrayIndexOutOfBoundsException e) {
            return came;
        }
        return came;
    }

    private List<Integer> settings(int what) {
        return what == 0 ? brims : what == 1 ? lees : what == 2 ? downs : what == 3 ? blows : new ArrayList<>();
    }

    public int mend(int number, int what, int v) {
        List<Integer> row = settings(what);
        if (number < 0 || number >= row.size() || v < 0 || v > (what == 2 ? 6 : 9)) return BAD;
        int was = row.set(number, v);
        if (was == v) return v;
        done.add(new int[] {what, number, was, v});
        undone.clear();
        if (done.size() > 40) done.remove(0);
        return was;
    }

    private int gust(State t, int place, int hour) {
        return Math.max(0, blows.get(hour) + t.more - lees.get(place));
    }

    private int number(State t, int p, int place, int hour, int brim) {
        int hats = t.hats.get(p);
        if (hats == 0) return 0;
        int others = 0;
        for (int q = 0; q < brims.size(); q++) {
            if (q != p && t.at.get(q) == place) others++;
        }
        int[] named = {gust(t, place, hour), hats, brim, hour, p, others};
        int v = text == null ? named[0] + hats - brim : SlowLaw.value(text, named);
        return v < 0 ? 0 : v > 12 ? 12 : v;
    }

    private int number(State t, int p) {
        return number(t, p, t.at.get(p), t.now, brims.get(p));
    }

    private int rank(State t, int p) {
        int above = 0;
        for (int q = 0; q < brims.size(); q++) {
            int more = t.hats.get(q) - t.hats.get(p);
            if (more > 0 || more == 0 && q < p) above++;
        }
        return above;
    }

    private int commander(State t) {
        for (int p = 0; p < brims.size(); p++) {
            if (rank(t, p) == 0) return p;
        }
        return STATE;
    }

    public int of(int number, int what) {
        if (what >= 0 && what <= 4 && isPerson(number)) {
            if (what == 4 && s.now == 24) return BAD;
            return what == 0 ? s.hats.get(number) : what == 1 ? brims.get(number) : what == 2 ? s.at.get(number)
                : what == 3 ? rank(s, number) : number(s, number);
        }
        if (what >= 10 && what <= 13 && isPlace(number)) {
            if (what == 13 && s.now == 24) return BAD;
            return what == 10 ? lees.get(number) : what == 11 ? downs.get(number) : what == 12 ? s.lying.get(number)
                : gust(s, number, s.now);
        }
        return what == 20 && number >= 0 && number < 24 ? blows.get(number) : BAD;
    }

    public int feed(int letter) {
        if (letter < 0 || letter > 255) return BAD;
        if (tape.length() == 120) return FULL;
        tape += (char) letter;
        return tape.length();
    }

    public int law() {
        int fault = SlowLaw.fault(tape);
        if (fault < 0) text = tape;
        tape = "";
        return fault < 0 ? 1 : -100 - fault;
    }

    private void takeUp(State t) {
        for (int p = 0; p < brims.size(); p++) {
            int q = t.at.get(p);
            if (t.hats.get(p) < 9 && t.lying.get(q) > 0) {
                t.add(t.hats, p, 1);
                t.add(t.lying, q, -1);
            }
        }
    }

    /** On whom it lands; NOT: nobody. */
    private int fall(State t, int p) {
        int at = t.at.get(p);
        t.add(t.hats, p, -1);
        List<Integer> order = new ArrayList<>();
        for (int q = p + 1; q < brims.size(); q++) order.add(q);
        for (int q = 0; q < p; q++) order.add(q);
        for (int q : order) {
            if (t.at.get(q) == at && t.hats.get(q) < 9) {
                t.add(t.hats, q, 1);
                return q;
            }
        }
        int down = downs.get(at);
        if (down != at && isPlace(down)) {
            for (int q = 0; q < brims.size(); q++) {
                if (t.at.get(q) == down && t.hats.get(q) < 9) {
                    t.add(t.hats, q, 1);
                    return q;
                }
            }
        } else {
            down = at;
        }
        t.add(t.lying, down, 1);
        return NOT;
    }

    private int hour(State t, List<Integer> led) {
        int fell = 0;
        takeUp(t);
        for (int p = 0; p < brims.size(); p++) {
            led.set(p, p);
            if (t.hats.get(p) > 0) {
                z = z * 1103515245 + 12345;
                if ((z >>> 8) % 12 < number(t, p)) {
                    led.set(p, fall(t, p));
                    fell++;
                }
            }
        }
        t.now++;
        return fell;
    }

    public int go(int seed, int n) {
        if (n < 1 || n > 24) return BAD;
        if (s.now + n > 24) return STATE;
        z = seed;
        int fell = 0;
        for (int k = 0; k < n; k++) fell += hour(s, leds);
        return fell;
    }

    public int move(int person, int place) {
        if (!isPerson(person) || !isPlace(place)) return BAD;
        if (!isWay(s.at.get(person), place)) return NOT;
        s.at.set(person, place);
        return place;
    }

    public int lay(int place) {
        if (!isPlace(place)) return BAD;
        if (s.lying.get(place) >= 99) return FULL;
        s.add(s.lying, place, 1);
        return s.lying.get(place);
    }

    public int commands() {
        return commander(s);
    }

    public int led(int person) {
        return isPerson(person) ? leds.get(person) : BAD;
    }

    /** The first of the best rows of places from NOW to t, ahead of it its sum; null: there is none. */
    private List<Integer> route(int person, int target, int t) {
        Map<Integer, List<Integer>> best = new HashMap<>();
        List<Integer> first = new ArrayList<>(List.of(number(s, person, s.at.get(person), s.now, brims.get(person))));
        first.add(s.at.get(person));
        best.put(s.at.get(person), first);
        for (int h = s.now + 1; h <= t; h++) {
            Map<Integer, List<Integer>> next = new HashMap<>();
            for (Map.Entry<Integer, List<Integer>> e : best.entrySet()) {
                for (int q = 0; q < lees.size(); q++) {
                    if (q == e.getKey() || isWay(q, e.getKey())) {
                        List<Integer> longer = new ArrayList<>(e.getValue());
                        longer.add(q);
                        longer.set(0, longer.get(0) + number(s, person, q, h, brims.get(person)));
                        if (!next.containsKey(q) || Arrays.compare(ints(longer), ints(next.get(q))) < 0) next.put(q, longer);
                    }
                }
            }
            best = next;
        }
        return best.get(target);
    }

    private static int[] ints(List<Integer> row) {
        return row.stream().mapToInt(Integer::intValue).toArray();
    }

    private boolean isEnd(int pt) {
        return pt >= 0 && isPlace(pt / 100) && pt % 100 >= s.now && pt % 100 <= 23;
    }

    public int risk(int person, int pt) {
        if (!isPerson(person) || !isEnd(pt)) return BAD;
        List<Integer> r = route(person, pt / 100, pt % 100);
        return r == null ? NOT : r.get(0);
    }

    public int walk(int person, int pt, int hour) {
        if (!isPerson(person) || !isEnd(pt) || hour < s.now || hour > pt % 100) return BAD;
        List<Integer> r = route(person, pt / 100, pt % 100);
        return r == null ? NOT : r.get(1 + hour - s.now);
    }

    /** Above the line for 12 to the sixth by hours below it: where one commands, hats of one. */
    private BigInteger[] odds(State t, int person, int y) {
        if (y == 0) {
            return new BigInteger[] {BigInteger.valueOf(commander(t) == person ? 1 : 0), BigInteger.valueOf(t.hats.get(person))};
        }
        State begun = t.copy();
        takeUp(begun);
        return turn(begun, person, y, 0);
    }

    private BigInteger[] turn(State t, int person, int y, int p) {
        if (p >= brims.size()) {
            State later = t.copy();
            later.now++;
            BigInteger[] o = odds(later, person, y - 1);
            BigInteger rest = BigInteger.valueOf(12).pow(6 - p);
            return new BigInteger[] {o[0].multiply(rest), o[1].multiply(rest)};
        }
        int number = number(t, p);
        BigInteger[] sum = {BigInteger.ZERO, BigInteger.ZERO};
        for (int falls = 0; falls < 2; falls++) {
            int weight = falls == 1 ? number : 12 - number;
            if (weight > 0) {
                State next = t.copy();
                if (falls == 1) fall(next, p);
                BigInteger[] o = turn(next, person, y, p + 1);
                for (int i = 0; i < 2; i++) sum[i] = sum[i].add(o[i].multiply(BigInteger.valueOf(weight)));
            }
        }
        return sum;
    }

    private long fraction(int person, int y, int part, int which) {
        if (!isPerson(person) || y < 0 || y > 2 || part < 0 || part > 1) return MIN;
        if (s.now + y > 24) return STATE;
        BigInteger above = odds(s, person, y)[which];
        BigInteger below = BigInteger.valueOf(12).pow(6 * y);
        BigInteger common = above.gcd(below);
        return (part == 0 ? above : below).divide(common).longValueExact();
    }

    public long chance(int person, int y, int part) {
        return fraction(person, y, part, 0);
    }

    public long mean(int person, int y, int part) {
        return fraction(person, y, part, 1);
    }

    public int stand(int person, int y) {
        if (!isPerson(person) || y < 0 || y > 2) return BAD;
        if (s.now + y > 24) return STATE;
        BigInteger[] chances = new BigInteger[lees.size()];
        BigInteger most = BigInteger.ZERO;
        for (int q = 0; q < lees.size(); q++) {
            State t = s.copy();
            t.at.set(person, q);
            chances[q] = odds(t, person, y)[0];
            most = most.max(chances[q]);
        }
        if (chances[s.at.get(person)].equals(most)) return s.at.get(person);
        return Arrays.asList(chances).indexOf(most);
    }

    public int heavy(int person, int hx) {
        if (!isPerson(person) || hx < 0 || hx / 100 > 23 || hx % 100 > 12) return BAD;
        for (int brim = 0; brim < 10; brim++) {
            if (number(s, person, s.at.get(person), hx / 100, brim) <= hx % 100) return brim;
        }
        return NOT;
    }

    private State later(int seed, int k, int more) {
        State t = s.copy();
        t.more = more;
        z = seed;
        List<Integer> led = new ArrayList<>(leds);
        for (int i = 0; i < k; i++) hour(t, led);
        return t;
    }

    public int ahead(int seed, int k, int person, int what) {
        if (k < 1 || k > 24 || what < 0 || what > 2 || (what == 0 ? !isPerson(person) : person != -1)) return BAD;
        if (s.now + k > 24 || what == 1 && brims.isEmpty()) return STATE;
        State t = later(seed, k, 0);
        return what == 0 ? t.hats.get(person) : what == 1 ? commander(t) : t.lying.stream().mapToInt(v -> v).sum();
    }

    public int storm(int seed) {
        if (brims.isEmpty()) return STATE;
        for (int more = 0; more <= 20; more++) {
            if (commander(later(seed, 24 - s.now, more)) != commander(s)) return more;
        }
        return NOT;
    }

    public int seeded(int shelf, int k) {
        if (shelf < 0 || shelf > 5 || k < 0 || k > 24) return BAD;
        if (shelves[shelf] == null) return -11;
        if (!(shelves[shelf] instanceof byte[])) return -12;
        if (s.now + k > 24) return STATE;
        byte[] row = (byte[]) shelves[shelf];
        for (int seed = 0; seed < 100; seed++) {
            State t = later(seed, k, 0);
            boolean so = true;
            for (int p = 0; p < brims.size() && p < row.length; p++) so &= t.hats.get(p) == row[p];
            if (so) return seed;
        }
        return NOT;
    }

    public int image() {
        image = s.copy();
        return s.now;
    }

    public int back() {
        if (image == null) return STATE;
        for (int p = 0; p < image.hats.size(); p++) {
            s.hats.set(p, image.hats.get(p));
            s.at.set(p, image.at.get(p));
        }
        for (int q = 0; q < image.lying.size(); q++) s.lying.set(q, image.lying.get(q));
        s.now = image.now;
        return s.now;
    }

    public int undo() {
        if (done.isEmpty()) return STATE;
        int[] c = done.remove(done.size() - 1);
        settings(c[0]).set(c[1], c[2]);
        undone.add(c);
        return done.size();
    }

    public int redo() {
        if (undone.isEmpty()) return STATE;
        int[] c = undone.remove(undone.size() - 1);
        settings(c[0]).set(c[1], c[3]);
        done.add(c);
        return undone.size();
    }

    public int body(int kind) {
        if (kind < 0 || kind > 7) return BAD;
        if (bodies.size() == 50) return FULL;
        bodies.add(SlowBodies.make(kind, bodies.size()));
        return bodies.size() - 1;
    }

    public int act(int body, int act, int x) {
        ran = new ArrayList<>();
        if (body < 0 || body >= bodies.size() || act < 0 || act > 3) return 0;
        int answer = SlowBodies.act(bodies.get(body), act, x);
        ran = new ArrayList<>(SlowBodies.RAN);
        return answer;
    }

    public int trace(int i) {
        return i >= 0 && i < ran.size() && i < 24 ? ran.get(i) : BAD;
    }

    public int keep(int shelf, int body) {
        if (shelf < 0 || shelf > 5 || body < -1 || body >= bodies.size()) return BAD;
        shelves[shelf] = body == -1 ? null : bodies.get(body);
        return 1;
    }

    public int row(int shelf, int sort, int n) {
        if (shelf < 0 || shelf > 5 || sort < 0 || sort > 4 || n > 60) return BAD;
        Class<?>[] sorts = {byte.class, short.class, int.class, long.class, boolean.class};
        try {
            shelves[shelf] = Array.newInstance(sorts[sort], n);
            return 1;
        } catch (NegativeArraySizeException e) {
            return -14;
        }
    }

    public int put(int shelf, int i, long v) {
        if (shelf < 0 || shelf > 5) return BAD;
        Object row = shelves[shelf];
        try {
            if (row instanceof byte[]) Array.setByte(row, i, (byte) v);
            else if (row instanceof short[]) Array.setShort(row, i, (short) v);
            else if (row instanceof int[]) Array.setInt(row, i, (int) v);
            else if (row instanceof boolean[]) Array.setBoolean(row, i, v != 0);
            else Array.setLong(row, i, v);
            return 1;
        } catch (NullPointerException e) {
            return -11;
        } catch (IllegalArgumentException e) {
            return -12;
        } catch (ArrayIndexOutOfBoundsException e) {
            return -13;
        }
    }

    public long element(int shelf, int i) {
        if (shelf < 0 || shelf > 5) return MIN;
        Object row = shelves[shelf];
        try {
            return row instanceof boolean[] ? Array.getBoolean(row, i) ? 1 : 0 : Array.getLong(row, i);
        } catch (NullPointerException | IllegalArgumentException | ArrayIndexOutOfBoundsException e) {
            return MIN;
        }
    }

    // the host's own copying is asked here on purpose: its refusals are those of the document
    @SuppressWarnings("SuspiciousSystemArraycopy")
    public int shift(int shelf, int i, int other, int j, int n) {
        if (shelf < 0 || shelf > 5 || other < 0 || other > 5) return BAD;
        try {
            System.arraycopy(shelves[shelf], i, shelves[other], j, n);
            return n;
        } catch (NullPointerException e) {
            return -11;
        } catch (ArrayStoreException e) {
            return -12;
        } catch (IndexOutOfBoundsException e) {
            return -13;
        }
    }

    public int taken(int shelf, int k) {
        if (shelf < 0 || shelf > 5 || k < 0 || k > 7) return BAD;
        if (shelves[shelf] == null) return -11;
        try {
            SlowBodies.KINDS[k].cast(shelves[shelf]);
            return SlowBodies.kind((SlowBodies.Hat) shelves[shelf]);
        } catch (ClassCastException e) {
            return -12;
        }
    }

    public int count(int what) {
        int[] counts = {brims.size(), lees.size(), ways.size(), s.now, tape.length(), done.size(), bodies.size(), ran.size()};
        return what >= 0 && what < 8 ? counts[what] : BAD;
    }
}
