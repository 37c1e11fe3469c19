import java.lang.reflect.Method;
import java.util.ArrayList;
import java.util.Arrays;
import java.util.List;
import java.util.Map;

/** Long random runs of calls, each answer compared with that of SlowRank; all promises. */
public final class RandomRunsTest {
    private static final int RUNS = Integer.getInteger("hatrank.runs", 400);
    private static final int CALLS = 512;
    private static final Map<String, Method> QUICK = RandomCalls.methods(HatRank.class);
    private static final Map<String, Method> SLOW = RandomCalls.methods(SlowRank.class);

    public static void main(String[] args) throws Exception {
        int wrong = 0;
        for (int run = 0; run < RUNS && wrong < 5; run++) {
            wrong += oneRun(run) ? 0 : 1;
        }
        System.out.println(RUNS + " runs of " + CALLS + " calls, " + wrong + " of them not as due");
        if (wrong != 0) {
            System.exit(1);
        }
    }

    private static boolean oneRun(int run) throws ReflectiveOperationException {
        HatRank x = new HatRank();
        SlowRank y = new SlowRank();
        List<String> told = new ArrayList<>();
        for (Object[] call : RandomCalls.run(run, CALLS)) {
            long got = RandomCalls.ask(x, QUICK, call);
            long want = RandomCalls.ask(y, SLOW, call);
            told.add(Arrays.toString(call) + " -> " + got);
            if (got != want) {
                System.out.println("run " + run + ", call " + told.size() + ": due is " + want + " in the last of");
                told.subList(Math.max(0, told.size() - 30), told.size()).forEach(System.out::println);
                return false;
            }
        }
        return true;
    }
}
