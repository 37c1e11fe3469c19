import java.lang.management.ManagementFactory;

/** What a run makes is counted: an object is small, and no call makes another one. */
public final class RoomTest {
    private static final Due due = new Due();
    private static long sink;

    public static void main(String[] args) {
        com.sun.management.ThreadMXBean threads = (com.sun.management.ThreadMXBean) ManagementFactory.getThreadMXBean();
        long self = Thread.currentThread().getId();
        calls(new HatRank());
        threads.getThreadAllocatedBytes(self);
        long before = threads.getThreadAllocatedBytes(self);
        HatRank x = new HatRank();
        long made = threads.getThreadAllocatedBytes(self) - before;
        due.holds("an object takes " + made + " bytes", made < 40000);
        before = threads.getThreadAllocatedBytes(self);
        calls(x);
        long more = threads.getThreadAllocatedBytes(self) - before;
        due.holds("the calls took " + more + " bytes", more < 1000);
        due.holds("answers were given", sink != 0);
        due.end();
    }

    private static void calls(HatRank x) {
        for (int i = 0; i < 7; i++) {
            sink += x.place(i) + x.mend(i, 2, 6 - i);
        }
        for (int i = 1; i < 7; i++) {
            sink += x.way(i);
        }
        for (int p = 0; p < 5; p++) {
            sink += x.person(35 + p, p % 2);
        }
        sink += x.row(0, 0, 60) + x.put(0, 0, 1) + x.people(0, 0, 1) + x.element(0, 0) + x.shift(0, 0, 0, 1, 5);
        for (int i = 0; i < 119; i++) {
            sink += x.feed(i % 2 == 0 ? 'g' : "+-*/%".charAt(i % 5));
        }
        sink += x.law() + x.image() + x.go(7, 2) + x.move(0, 1) + x.lay(0) + x.commands() + x.led(0) + x.of(0, 4);
        for (int p = 0; p < 6; p++) {
            sink += x.risk(p, 323) + x.walk(p, 323, 9) + x.chance(p, 2, 0) + x.mean(p, 2, 0) + x.stand(p, 2);
            sink += x.heavy(p, 2305) + x.ahead(5, 20, p, 0) + x.storm(p) + x.seeded(0, 20);
        }
        sink += x.back() + x.undo() + x.redo() + x.body(5) + x.act(0, 3, 5) + x.trace(0) + x.keep(1, 0);
        sink += x.taken(1, 0) + x.count(7);
    }
}
