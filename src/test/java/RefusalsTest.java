import java.lang.reflect.Method;
import java.util.ArrayList;
import java.util.List;
import java.util.Map;
import java.util.Set;
import java.util.function.Function;

/** "What is answered so changes nothing": a random run without its refused calls comes to the same. */
public final class RefusalsTest {
    private static final int RUNS = 150, CALLS = 250;
    private static final Set<Long> REFUSALS = Set.of(-1L, -2L, -3L, -5L, -11L, -12L, -13L, -14L, Long.MIN_VALUE);
    private static final Map<String, Method> METHODS = RandomCalls.methods(HatRank.class);
    private static final Due due = new Due();

    public static void main(String[] args) throws Exception {
        int refused = 0;
        for (int run = 0; run < RUNS; run++) {
            List<Object[]> all = RandomCalls.run(run, CALLS);
            List<Object[]> taken = taken(all);
            refused += all.size() - taken.size();
            for (Function<HatRank, String> look : Twins.LOOKS) {
                String with = look.apply(made(all));
                String without = look.apply(made(taken));
                due.holds("run " + run + ":\n  " + with + "\n  " + without, with.equals(without));
            }
        }
        due.holds("many were refused: " + refused, refused > RUNS * CALLS / 20);
        due.end();
    }

    /** An act's answer is any int, and an act that is not there leaves no trace: none of them is left out. */
    private static List<Object[]> taken(List<Object[]> all) throws ReflectiveOperationException {
        HatRank x = new HatRank();
        List<Object[]> taken = new ArrayList<>();
        for (Object[] call : all) {
            boolean refused = REFUSALS.contains(RandomCalls.ask(x, METHODS, call)) && !call[0].equals("act");
            if (!refused) {
                taken.add(call);
            }
        }
        return taken;
    }

    private static HatRank made(List<Object[]> calls) throws ReflectiveOperationException {
        HatRank x = new HatRank();
        for (Object[] call : calls) {
            RandomCalls.ask(x, METHODS, call);
        }
        return x;
    }
}
