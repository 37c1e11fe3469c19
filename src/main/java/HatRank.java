import java.util.Arrays;

/** Rank by hats: people in windy streets, of whom the one with the most hats commands. */
public final class HatRank {
    public static final int BAD = -1, NOT = -2, FULL = -3, STATE = -5, VOID = -2000000000;

    private static final int NOTHING_THERE = -11, OTHER_KIND = -12, NO_SUCH_PLACE = -13, SIZE_BELOW_0 = -14;
    /** The least long, written out: of Long the language's list has the functions alone. */
    private static final long NO_VALUE = -9223372036854775808L;
    private static final int PEOPLE = 6, PLACES = 7, WAYS = 12, HOURS = 24, HATS = 9, LYING = 99, TWELVE = 12;
    private static final int FIRST_BLOW = 3, BRIM = 0, LEE = 1, DOWN = 2, BLOW = 3;
    private static final int TAPE = 120, FAULT_BASE = -100, MOST_MORE = 20, SEEDS = 100, THOUGHT_HOURS = 2;

    private final Town town = new Town();
    private final Day day = new Day();
    private final Tape tape = new Tape();
    private final Gauge gauge = new Gauge(town, tape);
    private final Wind wind = new Wind(town, gauge);
    private final Odds odds = new Odds(town, gauge, wind);
    private final Routes routes = new Routes(town, gauge);
    private final Changes changes = new Changes();
    private final Bodies bodies = new Bodies();
    private final Shelves shelves = new Shelves();
    /** By people: on whom the hat landed in the latest hour, itself, NOT, or STATE. */
    private final int[] landed = new int[PEOPLE];
    private final Day imageDay = new Day();
    private boolean imageKept;
    private int imagePeople;
    private int imagePlaces;

    public HatRank() {
    }

    // ---- places, people

    public int place(int lee) {
        if (!within(lee, 0, 9)) {
            return BAD;
        }
        return town.addPlace(lee);
    }

    public int way(int ab) {
        if (ab < 0) {
            return BAD;
        }
        int a = ab / 10;
        int b = ab % 10;
        if (a == b || !town.hasPlace(a) || !town.hasPlace(b) || town.joined(a, b)) {
            return BAD;
        }
        return town.addWay(a, b);
    }

    public int person(int hb, int place) {
        if (!within(hb, 0, 99)) {
            return BAD;
        }
        return newPerson(hb / 10, hb % 10, place);
    }

    public int people(int shelf, int i, int n) {
        if (!shelves.has(shelf) || !within(n, 1, PEOPLE)) {
            return BAD;
        }
        if (shelves.holdsNothing(shelf)) {
            return 0;
        }
        if (!shelves.holdsBytes(shelf)) {
            return OTHER_KIND;
        }
        int came = 0;
        while (came < n && shelves.hasSpan(shelf, i, 3 * came + 3) && newPersonFrom(shelf, i + 3 * came) >= 0) {
            came++;
        }
        return came;
    }

    public int mend(int number, int what, int v) {
        int most = what == DOWN ? PLACES - 1 : 9;
        if (!town.hasSetting(what, number) || !within(v, 0, most)) {
            return BAD;
        }
        int before = town.exchange(what, number, v);
        // what stays as it was is no change: it can't be undone, and cuts off nothing that can be done again
        if (before != v) {
            changes.note(what, number, before, v);
        }
        return before;
    }

    public int of(int number, int what) {
        if (what >= 20) {
            return what == 20 && within(number, 0, HOURS - 1) ? town.blow[number] : BAD;
        }
        return what >= 10 ? ofPlace(number, what) : ofPerson(number, what);
    }

    public int feed(int letter) {
        if (!within(letter, 0, 255)) {
            return BAD;
        }
        return tape.take(letter);
    }

    public int law() {
        int fault = tape.becomeLaw();
        return fault < 0 ? 1 : FAULT_BASE - fault;
    }

    // ---- in deed

    public int go(int seed, int n) {
        if (!within(n, 1, HOURS)) {
            return BAD;
        }
        if (n > hoursLeft()) {
            return STATE;
        }
        gauge.begin(0);
        wind.begin(seed);
        return wind.blowHours(day, n, landed);
    }

    public int move(int person, int place) {
        if (!town.hasPerson(person) || !town.hasPlace(place)) {
            return BAD;
        }
        if (!town.joined(day.at[person], place)) {
            return NOT;
        }
        day.at[person] = place;
        return place;
    }

    public int lay(int place) {
        if (!town.hasPlace(place)) {
            return BAD;
        }
        // hats that the wind laid there are not refused, so there may be more than 99
        if (day.lying[place] >= LYING) {
            return FULL;
        }
        day.lying[place]++;
        return day.lying[place];
    }

    public int commands() {
        return town.people == 0 ? STATE : town.commander(day);
    }

    public int led(int person) {
        return town.hasPerson(person) ? landed[person] : BAD;
    }

    // ---- in thought

    public int risk(int person, int pt) {
        if (!town.hasPerson(person) || !mayEnd(pt)) {
            return BAD;
        }
        int least = routes.measure(day, person, pt / 100, pt % 100);
        return least < Routes.FAR ? least : NOT;
    }

    public int walk(int person, int pt, int hour) {
        if (!town.hasPerson(person) || !mayEnd(pt) || !within(hour, day.now, pt % 100)) {
            return BAD;
        }
        int least = routes.measure(day, person, pt / 100, pt % 100);
        return least < Routes.FAR ? routes.follow(day, person, hour) : NOT;
    }

    public long chance(int person, int y, int part) {
        long refusal = fractionRefusal(person, y, part);
        if (refusal != 0) {
            return refusal;
        }
        odds.spread(day, person, day.at[person], y);
        return partOf(odds.commanding, odds.all, part);
    }

    public long mean(int person, int y, int part) {
        long refusal = fractionRefusal(person, y, part);
        if (refusal != 0) {
            return refusal;
        }
        odds.spread(day, person, day.at[person], y);
        return partOf(odds.hats, odds.all, part);
    }

    public int stand(int person, int y) {
        if (!mayThink(person, y)) {
            return BAD;
        }
        if (y > hoursLeft()) {
            return STATE;
        }
        int own = day.at[person];
        int best = own;
        odds.spread(day, person, own, y);
        long most = odds.commanding;
        for (int place = 0; place < town.places; place++) {
            if (place != own) {
                // parts of one and the same whole, so they can be compared as they are
                odds.spread(day, person, place, y);
                if (odds.commanding > most) {
                    most = odds.commanding;
                    best = place;
                }
            }
        }
        return best;
    }

    public int heavy(int person, int hx) {
        if (!town.hasPerson(person) || hx < 0 || hx / 100 >= HOURS || hx % 100 > TWELVE) {
            return BAD;
        }
        for (int brim = 0; brim <= 9; brim++) {
            if (gauge.number(day, person, day.at[person], hx / 100, brim) <= hx % 100) {
                return brim;
            }
        }
        return NOT;
    }

    public int ahead(int seed, int k, int person, int what) {
        boolean named = what == 0 ? town.hasPerson(person) : person == -1;
        if (!within(k, 1, HOURS) || !within(what, 0, 2) || !named) {
            return BAD;
        }
        if (k > hoursLeft() || what == 1 && town.people == 0) {
            return STATE;
        }
        gauge.begin(0);
        Day then = wind.think(day, seed, k);
        if (what == 0) {
            return then.hats[person];
        }
        return what == 1 ? town.commander(then) : then.allLying();
    }

    public int storm(int seed) {
        if (town.people == 0) {
            return STATE;
        }
        int leader = town.commander(day);
        int found = NOT;
        for (int more = 0; more <= MOST_MORE && found == NOT; more++) {
            gauge.begin(more);
            if (town.commander(wind.think(day, seed, hoursLeft())) != leader) {
                found = more;
            }
        }
        gauge.begin(0);
        return found;
    }

    public int seeded(int shelf, int k) {
        if (!shelves.has(shelf) || !within(k, 0, HOURS)) {
            return BAD;
        }
        if (shelves.holdsNothing(shelf)) {
            return NOTHING_THERE;
        }
        if (!shelves.holdsBytes(shelf)) {
            return OTHER_KIND;
        }
        if (k > hoursLeft()) {
            return STATE;
        }
        gauge.begin(0);
        for (int seed = 0; seed < SEEDS; seed++) {
            if (hatsAreAsTold(wind.think(day, seed, k), shelf)) {
                return seed;
            }
        }
        return NOT;
    }

    public int image() {
        imageDay.become(day);
        imagePeople = town.people;
        imagePlaces = town.places;
        imageKept = true;
        return day.now;
    }

    public int back() {
        if (!imageKept) {
            return STATE;
        }
        for (int p = 0; p < imagePeople; p++) {
            day.hats[p] = imageDay.hats[p];
            day.at[p] = imageDay.at[p];
        }
        for (int place = 0; place < imagePlaces; place++) {
            day.lying[place] = imageDay.lying[place];
        }
        day.now = imageDay.now;
        return day.now;
    }

    public int undo() {
        return changes.takeBack(town);
    }

    public int redo() {
        return changes.makeAgain(town);
    }

    // ---- acts, shelves

    public int body(int kind) {
        return within(kind, 0, Bodies.KINDS - 1) ? bodies.add(kind) : BAD;
    }

    public int act(int body, int act, int x) {
        return bodies.begin(body, act, x);
    }

    public int trace(int i) {
        return bodies.ran(i);
    }

    public int keep(int shelf, int body) {
        if (!shelves.has(shelf) || body != -1 && !bodies.has(body)) {
            return BAD;
        }
        if (body == -1) {
            shelves.clear(shelf);
        } else {
            shelves.holdBody(shelf, body);
        }
        return 1;
    }

    public int row(int shelf, int sort, int n) {
        if (!shelves.has(shelf) || !within(sort, 0, Shelves.SORTS - 1) || n > Shelves.LENGTH) {
            return BAD;
        }
        if (n < 0) {
            return SIZE_BELOW_0;
        }
        shelves.holdRow(shelf, sort, n);
        return 1;
    }

    public int put(int shelf, int i, long v) {
        int refusal = shelves.refusal(shelf, i);
        if (refusal != 0) {
            return refusal;
        }
        shelves.set(shelf, i, v);
        return 1;
    }

    public long element(int shelf, int i) {
        return shelves.refusal(shelf, i) != 0 ? NO_VALUE : shelves.get(shelf, i);
    }

    public int shift(int shelf, int i, int other, int j, int n) {
        if (!shelves.has(shelf) || !shelves.has(other)) {
            return BAD;
        }
        if (shelves.holdsNothing(shelf) || shelves.holdsNothing(other)) {
            return NOTHING_THERE;
        }
        if (!shelves.holdAlike(shelf, other)) {
            return OTHER_KIND;
        }
        if (!shelves.hasSpan(shelf, i, n) || !shelves.hasSpan(other, j, n)) {
            return NO_SUCH_PLACE;
        }
        shelves.carry(shelf, i, other, j, n);
        return n;
    }

    public int taken(int shelf, int k) {
        if (!shelves.has(shelf) || !within(k, 0, Bodies.KINDS - 1)) {
            return BAD;
        }
        if (shelves.holdsNothing(shelf)) {
            return NOTHING_THERE;
        }
        int kind = bodies.kindOf(shelves.bodyOn(shelf));
        return Bodies.isUnder(kind, k) ? kind : OTHER_KIND;
    }

    public int count(int what) {
        switch (what) {
            case 0: return town.people;
            case 1: return town.places;
            case 2: return town.ways;
            case 3: return day.now;
            case 4: return tape.length;
            case 5: return changes.done;
            case 6: return bodies.size;
            case 7: return bodies.runs;
            default: return BAD;
        }
    }

    private static boolean within(int v, int least, int most) {
        return v >= least && v <= most;
    }

    private int hoursLeft() {
        return HOURS - day.now;
    }

    private boolean mayThink(int person, int y) {
        return town.hasPerson(person) && within(y, 0, THOUGHT_HOURS);
    }

    /** Why there is no fraction; 0 if there is one. */
    private long fractionRefusal(int person, int y, int part) {
        if (!mayThink(person, y) || !within(part, 0, 1)) {
            return NO_VALUE;
        }
        return y > hoursLeft() ? STATE : 0;
    }

    private boolean mayEnd(int pt) {
        return pt >= 0 && town.hasPlace(pt / 100) && within(pt % 100, day.now, HOURS - 1);
    }

    private int newPerson(int hats, int brim, int place) {
        if (!within(hats, 0, HATS) || !within(brim, 0, 9) || !town.hasPlace(place)) {
            return BAD;
        }
        int p = town.addPerson(brim);
        if (p >= 0) {
            day.hats[p] = hats;
            day.at[p] = place;
            landed[p] = STATE;
        }
        return p;
    }

    private int newPersonFrom(int shelf, int i) {
        int hats = (int) shelves.get(shelf, i);
        int brim = (int) shelves.get(shelf, i + 1);
        int place = (int) shelves.get(shelf, i + 2);
        return newPerson(hats, brim, place);
    }

    private int ofPerson(int p, int what) {
        if (!town.hasPerson(p)) {
            return BAD;
        }
        switch (what) {
            case 0: return day.hats[p];
            case 1: return town.brim[p];
            case 2: return day.at[p];
            case 3: return town.rank(day, p);
            case 4: return day.now < HOURS ? gauge.number(day, p, day.at[p], day.now, town.brim[p]) : BAD;
            default: return BAD;
        }
    }

    private int ofPlace(int place, int what) {
        if (!town.hasPlace(place)) {
            return BAD;
        }
        switch (what) {
            case 10: return town.lee[place];
            case 11: return town.down[place];
            case 12: return day.lying[place];
            case 13: return day.now < HOURS ? town.gust(place, day.now, 0) : BAD;
            default: return BAD;
        }
    }

    private boolean hatsAreAsTold(Day then, int shelf) {
        int told = Math.min(town.people, shelves.lengthOf(shelf));
        for (int p = 0; p < told; p++) {
            if (shelves.get(shelf, p) != then.hats[p]) {
                return false;
            }
        }
        return true;
    }

    private static long partOf(long above, long below, int part) {
        long common = commonDivisor(above, below);
        if (common <= 0) {
            return part;
        }
        return part == 0 ? above / common : below / common;
    }

    private static long commonDivisor(long a, long b) {
        long greater = a;
        long lesser = b;
        for (int step = 0; step < 200 && lesser != 0; step++) {
            long rest = greater % lesser;
            greater = lesser;
            lesser = rest;
        }
        return greater;
    }

    /** What hours change: who has how many hats and is where, and what lies about. */
    static final class Day {
        final int[] hats = new int[PEOPLE];
        final int[] at = new int[PEOPLE];
        final int[] lying = new int[PLACES];
        int now;

        void become(Day other) {
            System.arraycopy(other.hats, 0, hats, 0, PEOPLE);
            System.arraycopy(other.at, 0, at, 0, PEOPLE);
            System.arraycopy(other.lying, 0, lying, 0, PLACES);
            now = other.now;
        }

        int allLying() {
            int sum = 0;
            for (int place = 0; place < PLACES; place++) {
                sum += lying[place];
            }
            return sum;
        }
    }

    /** What hours leave as it is: places, ways, winds, and people's brims. */
    static final class Town {
        int people;
        int places;
        int ways;
        final int[] brim = new int[PEOPLE];
        final int[] lee = new int[PLACES];
        final int[] down = new int[PLACES];
        final int[] blow = new int[HOURS];
        /** By places: a bit for each place that a way leads to. */
        private final int[] near = new int[PLACES];

        Town() {
            Arrays.fill(blow, FIRST_BLOW);
        }

        boolean hasPerson(int p) {
            return p >= 0 && p < people;
        }

        boolean hasPlace(int place) {
            return place >= 0 && place < places;
        }

        int addPlace(int itsLee) {
            if (places >= PLACES) {
                return FULL;
            }
            lee[places] = itsLee;
            down[places] = places;
            places++;
            return places - 1;
        }

        int addPerson(int itsBrim) {
            if (people >= PEOPLE) {
                return FULL;
            }
            brim[people] = itsBrim;
            people++;
            return people - 1;
        }

        boolean joined(int a, int b) {
            return hasPlace(a) && hasPlace(b) && (near[a] >> b & 1) != 0;
        }

        int addWay(int a, int b) {
            if (ways >= WAYS) {
                return FULL;
            }
            near[a] |= 1 << b;
            near[b] |= 1 << a;
            ways++;
            return ways;
        }

        int gust(int place, int hour, int more) {
            if (!hasPlace(place) || hour < 0 || hour >= HOURS) {
                return 0;
            }
            return Math.max(0, blow[hour] + more - lee[place]);
        }

        boolean hasSetting(int what, int number) {
            int most = what == BRIM ? people : what == BLOW ? HOURS : places;
            return what >= BRIM && what <= BLOW && number >= 0 && number < most;
        }

        int exchange(int what, int number, int v) {
            if (!hasSetting(what, number)) {
                return BAD;
            }
            int[] settings = what == BRIM ? brim : what == LEE ? lee : what == DOWN ? down : blow;
            int before = settings[number];
            settings[number] = v;
            return before;
        }

        int rank(Day day, int p) {
            int ahead = 0;
            for (int q = 0; q < people; q++) {
                if (day.hats[q] > day.hats[p] || day.hats[q] == day.hats[p] && q < p) {
                    ahead++;
                }
            }
            return ahead;
        }

        int commander(Day day) {
            int first = 0;
            for (int q = 1; q < people; q++) {
                if (day.hats[q] > day.hats[first]) {
                    first = q;
                }
            }
            return first;
        }
    }

    /** A read law: each node works on earlier nodes alone, so one pass without a stack works all out. */
    static final class Formula {
        static final int LITERAL = '0', NEGATED = '_', NO_CONDITION = -1;

        private static final int NAMED = 6, NODES = NAMED + TAPE;

        private final int[] sign = new int[NODES];
        private final int[] left = new int[NODES];
        private final int[] right = new int[NODES];
        /** The first ones are what the names stand for; then come the nodes. */
        private final int[] value = new int[NODES];
        private final int[] condition = new int[TAPE];
        private final int[] result = new int[TAPE];
        private int nodes = NAMED;
        private int lines;

        void clear() {
            nodes = NAMED;
            lines = 0;
        }

        boolean isEmpty() {
            return lines == 0;
        }

        /** Its number, or -1; of a literal the left one is no node, but what it stands for. */
        int add(int itsSign, int itsLeft, int itsRight) {
            if (nodes >= NODES) {
                return -1;
            }
            sign[nodes] = itsSign;
            left[nodes] = itsLeft;
            right[nodes] = itsRight;
            nodes++;
            return nodes - 1;
        }

        void addLine(int itsCondition, int itsResult) {
            if (lines < TAPE) {
                condition[lines] = itsCondition;
                result[lines] = itsResult;
                lines++;
            }
        }

        void name(int name, int v) {
            if (name >= 0 && name < NAMED) {
                value[name] = v;
            }
        }

        int work() {
            for (int node = NAMED; node < nodes; node++) {
                if (sign[node] == LITERAL) {
                    value[node] = left[node];
                } else if (has(left[node]) && has(right[node])) {
                    value[node] = join(sign[node], value[left[node]], value[right[node]]);
                }
            }
            for (int line = 0; line < lines; line++) {
                int first = condition[line];
                if (first == NO_CONDITION || has(first) && value[first] != 0) {
                    return has(result[line]) ? value[result[line]] : 0;
                }
            }
            return 0;
        }

        private boolean has(int node) {
            return node >= 0 && node < nodes;
        }

        /** What works on one alone leaves b aside. */
        private static int join(int sign, int a, int b) {
            switch (sign) {
                case '!': return a == 0 ? 1 : 0;
                case NEGATED: return -a;
                case '|': return a != 0 || b != 0 ? 1 : 0;
                case '&': return a != 0 && b != 0 ? 1 : 0;
                case '<': return a < b ? 1 : 0;
                case '=': return a == b ? 1 : 0;
                case '>': return a > b ? 1 : 0;
                case '+': return a + b;
                case '-': return a - b;
                case '*': return a * b;
                case '/': return b == 0 ? 0 : a / b;
                case '%': return b == 0 ? 0 : a % b;
                default: return 0;
            }
        }
    }

    /** The tape, and the law that was read from an earlier one. */
    static final class Tape {
        private static final int OPEN = 6, DIGITS = 4, COMPARING = 2, OPERANDS = 5;
        /** In the order of the formula's names. */
        private static final String NAMES = "gnbhpo";

        int length;
        private final int[] letters = new int[TAPE];
        private int at;
        private Formula read = new Formula();
        private Formula draft = new Formula();

        Formula formula() {
            return read;
        }

        int take(int letter) {
            if (length >= TAPE) {
                return FULL;
            }
            letters[length] = letter;
            length++;
            return length;
        }

        /** The fault's place, or -1; a law that can't be read leaves the old one as it is. */
        int becomeLaw() {
            at = 0;
            draft.clear();
            int fault = readLines() ? -1 : at;
            if (fault < 0) {
                Formula old = read;
                read = draft;
                draft = old;
            }
            length = 0;
            return fault;
        }

        private int here() {
            return at >= 0 && at < length ? letters[at] : -1;
        }

        /** Every reading method stops at the faulty letter, so that at is the fault's place. */
        private boolean readLines() {
            for (int line = 0; line <= TAPE; line++) {
                if (!readLine()) {
                    return false;
                }
                if (at == length) {
                    return true;
                }
                if (here() != ';') {
                    return false;
                }
                at++;
            }
            return false;
        }

        private boolean readLine() {
            int first = readJoined(0, 0);
            if (first < 0 || here() != '?') {
                draft.addLine(Formula.NO_CONDITION, first);
                return first >= 0;
            }
            at++;
            int then = readJoined(0, 0);
            draft.addLine(first, then);
            return then >= 0;
        }

        /** Levels bind tighter as they rise: | & comparing, adding, multiplying. */
        private int readJoined(int level, int open) {
            if (level >= OPERANDS) {
                return readOperand(open);
            }
            int node = readJoined(level + 1, open);
            int most = level == COMPARING ? 1 : TAPE;
            for (int turn = 0; turn < most && node >= 0 && joins(here(), level); turn++) {
                int sign = here();
                at++;
                int right = readJoined(level + 1, open);
                node = right < 0 ? -1 : draft.add(sign, node, right);
            }
            return node;
        }

        private static boolean joins(int letter, int level) {
            switch (letter) {
                case '|': return level == 0;
                case '&': return level == 1;
                case '<': case '=': case '>': return level == COMPARING;
                case '+': case '-': return level == 3;
                case '*': case '/': case '%': return level == 4;
                default: return false;
            }
        }

        private int readOperand(int open) {
            int letter = here();
            if (isDigit(letter)) {
                return readNumber();
            }
            if (letter == '(' || letter == '!' || letter == '-') {
                return open < OPEN ? readOpened(letter, open + 1) : -1;
            }
            int name = letter < 0 ? -1 : NAMES.indexOf((char) letter);
            if (name >= 0) {
                at++;
            }
            return name;
        }

        private int readOpened(int letter, int open) {
            at++;
            if (letter != '(') {
                int node = readOperand(open);
                return node < 0 ? -1 : draft.add(letter == '!' ? '!' : Formula.NEGATED, node, 0);
            }
            int node = readJoined(0, open);
            if (node < 0 || here() != ')') {
                return -1;
            }
            at++;
            return node;
        }

        private int readNumber() {
            int number = 0;
            for (int digit = 0; digit < DIGITS && isDigit(here()); digit++) {
                number = number * 10 + here() - '0';
                at++;
            }
            return draft.add(Formula.LITERAL, number, 0);
        }

        private static boolean isDigit(int letter) {
            return letter >= '0' && letter <= '9';
        }
    }

    /** The law's numbers: in how many of twelve hours a hat falls. */
    static final class Gauge {
        private final Town town;
        private final Tape tape;
        /** By hour, person and hats: thoughts ask for the same numbers over and over. */
        private final int[] known = new int[HOURS * PEOPLE * (HATS + 1)];
        private int more;

        Gauge(Town town, Tape tape) {
            this.town = town;
            this.tape = tape;
        }

        /** To be called ahead of a thought: what is known holds as long as nobody moves or mends. */
        void begin(int blowsMore) {
            more = blowsMore;
            Arrays.fill(known, -1);
        }

        int knownNumber(Day day, int p, int hour) {
            int index = (hour * PEOPLE + p) * (HATS + 1) + day.hats[p];
            if (index < 0 || index >= known.length) {
                return 0;
            }
            if (known[index] < 0) {
                known[index] = number(day, p, day.at[p], hour, town.brim[p]);
            }
            return known[index];
        }

        int number(Day day, int p, int place, int hour, int brim) {
            int hats = day.hats[p];
            if (hats == 0) {
                return 0;
            }
            int gust = town.gust(place, hour, more);
            Formula formula = tape.formula();
            if (formula.isEmpty()) {
                return held(gust + hats - brim);
            }
            formula.name(0, gust);
            formula.name(1, hats);
            formula.name(2, brim);
            formula.name(3, hour);
            formula.name(4, p);
            formula.name(5, others(day, p, place));
            return held(formula.work());
        }

        private int others(Day day, int p, int place) {
            int sum = 0;
            for (int q = 0; q < town.people; q++) {
                if (q != p && day.at[q] == place) {
                    sum++;
                }
            }
            return sum;
        }

        private static int held(int v) {
            return Math.max(0, Math.min(TWELVE, v));
        }
    }

    /** Hours, by draws. */
    static final class Wind {
        private final Town town;
        private final Gauge gauge;
        private final Day thought = new Day();
        private int z;

        Wind(Town town, Gauge gauge) {
            this.town = town;
            this.gauge = gauge;
        }

        void begin(int seed) {
            z = seed;
        }

        /** The day some hours later; it is the same object for every thought. */
        Day think(Day from, int seed, int n) {
            thought.become(from);
            begin(seed);
            blowHours(thought, n, null);
            return thought;
        }

        int blowHours(Day day, int n, int[] landed) {
            int fallen = 0;
            for (int hour = 0; hour < n && day.now < HOURS; hour++) {
                takeUp(day);
                for (int p = 0; p < town.people; p++) {
                    int end = draws(day, p) ? fall(day, p) : p;
                    if (end != p) {
                        fallen++;
                    }
                    if (landed != null && p < landed.length) {
                        landed[p] = end < 0 ? NOT : end;
                    }
                }
                day.now++;
            }
            return fallen;
        }

        /** Who has no hats draws nothing, so that z does not go on. */
        private boolean draws(Day day, int p) {
            if (day.hats[p] == 0) {
                return false;
            }
            z = z * 1103515245 + 12345;
            return (z >>> 8) % TWELVE < gauge.knownNumber(day, p, day.now);
        }

        void takeUp(Day day) {
            for (int p = 0; p < town.people; p++) {
                int place = day.at[p];
                if (day.hats[p] < HATS && day.lying[place] > 0) {
                    day.hats[p]++;
                    day.lying[place]--;
                }
            }
        }

        /** On whom it lands, or -1 less the place where it is lying then. */
        int fall(Day day, int p) {
            int end = landing(day, p);
            shiftHat(day, p, end, 1);
            return end;
        }

        void unfall(Day day, int p, int end) {
            shiftHat(day, p, end, -1);
        }

        private void shiftHat(Day day, int p, int end, int by) {
            day.hats[p] -= by;
            if (end >= 0 && end < PEOPLE) {
                day.hats[end] += by;
            } else if (end < 0 && -1 - end < PLACES) {
                day.lying[-1 - end] += by;
            }
        }

        private int landing(Day day, int p) {
            int place = day.at[p];
            for (int step = 1; step < town.people; step++) {
                int q = p + step < town.people ? p + step : p + step - town.people;
                if (catches(day, q, place)) {
                    return q;
                }
            }
            int down = town.down[place];
            if (down == place || !town.hasPlace(down)) {
                return -1 - place;
            }
            for (int q = 0; q < town.people; q++) {
                if (catches(day, q, down)) {
                    return q;
                }
            }
            return -1 - down;
        }

        private static boolean catches(Day day, int q, int place) {
            return day.at[q] == place && day.hats[q] < HATS;
        }
    }

    /** All that may come of a few hours, each with its weight. */
    static final class Odds {
        private final Town town;
        private final Gauge gauge;
        private final Wind wind;
        private final Day day = new Day();
        private final Day[] before = {new Day(), new Day()};
        private int one;
        private int start;
        private int end;
        /** Sums of weights: where one commands, hats of one, of all. */
        long commanding;
        long hats;
        long all;

        Odds(Town town, Gauge gauge, Wind wind) {
            this.town = town;
            this.gauge = gauge;
            this.wind = wind;
        }

        void spread(Day from, int person, int place, int y) {
            day.become(from);
            day.at[person] = place;
            one = person;
            start = from.now;
            end = from.now + y;
            commanding = 0;
            hats = 0;
            all = 0;
            gauge.begin(0);
            spreadHour(start, 1);
        }

        private void spreadHour(int hour, long weight) {
            int depth = hour - start;
            if (hour >= end || depth < 0 || depth >= before.length) {
                weigh(weight);
                return;
            }
            before[depth].become(day);
            wind.takeUp(day);
            spreadPerson(hour, 0, weight);
            day.become(before[depth]);
        }

        /** Who can't lose a hat multiplies the weight by twelve too: all weights are parts of one whole. */
        private void spreadPerson(int hour, int p, long weight) {
            if (p >= town.people) {
                spreadHour(hour + 1, weight);
                return;
            }
            int number = gauge.knownNumber(day, p, hour);
            if (number < TWELVE) {
                spreadPerson(hour, p + 1, weight * (TWELVE - number));
            }
            if (number > 0) {
                int landedAt = wind.fall(day, p);
                spreadPerson(hour, p + 1, weight * number);
                wind.unfall(day, p, landedAt);
            }
        }

        private void weigh(long weight) {
            all += weight;
            hats += weight * day.hats[one];
            if (town.commander(day) == one) {
                commanding += weight;
            }
        }
    }

    /** Ways of least risk through the hours. */
    static final class Routes {
        static final int FAR = 1000000;

        private final Town town;
        private final Gauge gauge;
        /** By hour and place: the least sum from then and there on. */
        private final int[] least = new int[HOURS * PLACES];

        Routes(Town town, Gauge gauge) {
            this.town = town;
            this.gauge = gauge;
        }

        int measure(Day day, int p, int target, int last) {
            for (int hour = last; hour >= day.now; hour--) {
                for (int place = 0; place < town.places; place++) {
                    int rest = hour < last ? leastAt(hour + 1, bestStep(hour + 1, place)) : place == target ? 0 : FAR;
                    int number = gauge.number(day, p, place, hour, town.brim[p]);
                    least[hour * PLACES + place] = Math.min(FAR, rest + number);
                }
            }
            return leastAt(day.now, day.at[p]);
        }

        /** Where it is in an hour of the first of the best rows, measured before. */
        int follow(Day day, int p, int hour) {
            int place = day.at[p];
            for (int next = day.now + 1; next <= hour; next++) {
                place = bestStep(next, place);
            }
            return place;
        }

        private int bestStep(int hour, int from) {
            int best = from;
            int sum = FAR;
            for (int place = 0; place < town.places; place++) {
                boolean open = place == from || town.joined(from, place);
                if (open && leastAt(hour, place) < sum) {
                    sum = leastAt(hour, place);
                    best = place;
                }
            }
            return best;
        }

        private int leastAt(int hour, int place) {
            int index = hour * PLACES + place;
            return index >= 0 && index < least.length ? least[index] : FAR;
        }
    }

    /** Changes that can be undone, the latest first, and done again. */
    static final class Changes {
        private static final int MOST = 40;

        int done;
        private int size;
        private final int[] what = new int[MOST];
        private final int[] number = new int[MOST];
        private final int[] before = new int[MOST];
        private final int[] after = new int[MOST];

        void note(int itsWhat, int itsNumber, int itsBefore, int itsAfter) {
            if (done >= MOST) {
                dropOldest();
            }
            what[done] = itsWhat;
            number[done] = itsNumber;
            before[done] = itsBefore;
            after[done] = itsAfter;
            done++;
            size = done;
        }

        int takeBack(Town town) {
            if (done <= 0) {
                return STATE;
            }
            done--;
            town.exchange(what[done], number[done], before[done]);
            return done;
        }

        int makeAgain(Town town) {
            if (done >= size) {
                return STATE;
            }
            town.exchange(what[done], number[done], after[done]);
            done++;
            return size - done;
        }

        private void dropOldest() {
            System.arraycopy(what, 1, what, 0, MOST - 1);
            System.arraycopy(number, 1, number, 0, MOST - 1);
            System.arraycopy(before, 1, before, 0, MOST - 1);
            System.arraycopy(after, 1, after, 0, MOST - 1);
            done = MOST - 1;
        }
    }

    /** Bodies, and acts that come from their own kind or from above. */
    static final class Bodies {
        static final int KINDS = 8;

        private static final int MOST = 50, ACTS = 4, TRACE = 24, DEPTH = 40;
        private static final int SITS = 0, FALLS = 1, LANDS = 2, RANKS = 3, NONE = -1;
        private static final int[] ABOVE = {NONE, 0, 0, 2, 1, 3, 0, 6};
        /** By kinds: the numbers of their own sits, falls, lands, ranks; 0 where the kind has none. */
        private static final int[] OWN = {
            1, 10, 11, 2,
            20, 0, 0, 0,
            0, 30, 0, 0,
            0, 41, 40, 0,
            0, 0, 0, 50,
            0, 0, 60, 61,
            70, 0, 0, 0,
            81, 80, 0, 0,
        };

        int size;
        int runs;
        private final int[] kinds = new int[MOST];
        private final int[] trail = new int[TRACE];
        private int self;

        boolean has(int number) {
            return number >= 0 && number < size;
        }

        int add(int kind) {
            if (size >= MOST) {
                return FULL;
            }
            kinds[size] = kind;
            size++;
            return size - 1;
        }

        int kindOf(int number) {
            return has(number) ? kinds[number] : NONE;
        }

        static boolean isUnder(int kind, int top) {
            int up = kind;
            for (int step = 0; step < KINDS && up != NONE && up != top; step++) {
                up = above(up);
            }
            return up != NONE && up == top;
        }

        int begin(int number, int itsAct, int x) {
            runs = 0;
            if (!has(number) || itsAct < 0 || itsAct >= ACTS) {
                return 0;
            }
            self = number;
            return perform(kinds[number], itsAct, x, 0);
        }

        int ran(int i) {
            return i >= 0 && i < runs && i < TRACE ? trail[i] : BAD;
        }

        private static int above(int kind) {
            return kind >= 0 && kind < KINDS ? ABOVE[kind] : NONE;
        }

        private static int ownBody(int kind, int itsAct) {
            return kind >= 0 && kind < KINDS ? OWN[kind * ACTS + itsAct] : 0;
        }

        /** The act's body of this kind, or of the next kind above that has one. */
        private int perform(int kind, int itsAct, int x, int depth) {
            int owner = kind;
            for (int step = 0; step < KINDS && owner != NONE && ownBody(owner, itsAct) == 0; step++) {
                owner = above(owner);
            }
            if (owner == NONE || depth > DEPTH) {
                return 0;
            }
            int code = ownBody(owner, itsAct);
            if (runs < TRACE) {
                trail[runs] = code;
            }
            runs++;
            return run(code, above(owner), x, depth + 1);
        }

        private int performOwn(int itsAct, int x, int depth) {
            return perform(kindOf(self), itsAct, x, depth);
        }

        private int run(int code, int up, int x, int depth) {
            switch (code) {
                case 1: return x + self;
                case 2: return performOwn(FALLS, x, depth) - performOwn(LANDS, 1, depth);
                case 10: return performOwn(SITS, x, depth) * 2;
                case 11: return x ^ self;
                case 20: return perform(up, SITS, x, depth) + 3;
                case 30: return -perform(up, FALLS, x, depth);
                case 40: return perform(up, LANDS, x, depth) * 3;
                case 41: return perform(up, FALLS, x + 1, depth);
                case 50: return perform(up, RANKS, x, depth) ^ 5;
                case 60: return perform(up, LANDS, x, depth) - performOwn(SITS, 2, depth);
                case 61: return perform(up, RANKS, x, depth) + 1;
                case 70: return perform(up, SITS, x, depth) * 2;
                case 80: return perform(up, FALLS, x, depth) + performOwn(LANDS, 2, depth);
                case 81: return perform(up, SITS, x, depth) - 1;
                default: return 0;
            }
        }
    }

    /** Shelves, each with nothing, a body, or a row whose elements are kept as longs of few enough bits. */
    static final class Shelves {
        static final int SORTS = 5, LENGTH = 60;

        private static final int MOST = 6, BYTES = 0, SHORTS = 1, INTS = 2, LONGS = 3, NOTHING = -1, BODY = -2;

        private final int[] holds = new int[MOST];
        private final int[] bodies = new int[MOST];
        private final int[] lengths = new int[MOST];
        private final long[][] elements = new long[MOST][LENGTH];

        Shelves() {
            Arrays.fill(holds, NOTHING);
        }

        boolean has(int shelf) {
            return shelf >= 0 && shelf < MOST;
        }

        boolean holdsNothing(int shelf) {
            return !has(shelf) || holds[shelf] == NOTHING;
        }

        boolean holdsBytes(int shelf) {
            return has(shelf) && holds[shelf] == BYTES;
        }

        boolean holdAlike(int shelf, int other) {
            return holdsRow(shelf) && holdsRow(other) && holds[shelf] == holds[other];
        }

        private boolean holdsRow(int shelf) {
            return has(shelf) && holds[shelf] >= 0;
        }

        int lengthOf(int shelf) {
            return holdsRow(shelf) ? lengths[shelf] : 0;
        }

        /** -1 where there is no body. */
        int bodyOn(int shelf) {
            return has(shelf) && holds[shelf] == BODY ? bodies[shelf] : -1;
        }

        void clear(int shelf) {
            if (has(shelf)) {
                holds[shelf] = NOTHING;
            }
        }

        void holdBody(int shelf, int number) {
            if (has(shelf)) {
                holds[shelf] = BODY;
                bodies[shelf] = number;
            }
        }

        void holdRow(int shelf, int sort, int n) {
            if (has(shelf) && n >= 0 && n <= LENGTH) {
                holds[shelf] = sort;
                lengths[shelf] = n;
                Arrays.fill(elements[shelf], 0L);
            }
        }

        /** Why there is no such element; 0 if there is one. */
        int refusal(int shelf, int i) {
            if (!has(shelf)) {
                return BAD;
            }
            if (holdsNothing(shelf)) {
                return NOTHING_THERE;
            }
            if (!holdsRow(shelf)) {
                return OTHER_KIND;
            }
            return i >= 0 && i < lengths[shelf] ? 0 : NO_SUCH_PLACE;
        }

        long get(int shelf, int i) {
            return refusal(shelf, i) == 0 ? elements[shelf][i] : 0L;
        }

        void set(int shelf, int i, long v) {
            if (refusal(shelf, i) == 0) {
                elements[shelf][i] = cut(holds[shelf], v);
            }
        }

        private static long cut(int sort, long v) {
            switch (sort) {
                case BYTES: return (byte) v;
                case SHORTS: return (short) v;
                case INTS: return (int) v;
                case LONGS: return v;
                default: return v != 0 ? 1L : 0L;
            }
        }

        /** Written without sums, which could wrap. */
        boolean hasSpan(int shelf, int i, int n) {
            return i >= 0 && n >= 0 && n <= lengthOf(shelf) && i <= lengthOf(shelf) - n;
        }

        void carry(int shelf, int i, int other, int j, int n) {
            if (holdAlike(shelf, other) && hasSpan(shelf, i, n) && hasSpan(other, j, n)) {
                System.arraycopy(elements[shelf], i, elements[other], j, n);
            }
        }
    }
}
