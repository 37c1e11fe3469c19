import java.lang.reflect.Method;
import java.util.ArrayList;
import java.util.HashMap;
import java.util.List;
import java.util.Map;
import java.util.Random;

/** Long random runs of calls, each answer compared with that of SlowRank; all promises. */
public final class RandomRunsTest {
    private static final int RUNS = Integer.getInteger("hatrank.runs", 400);
    private static final int CALLS = 512;
    /** By call: how often, then the least and the greatest of each argument in ordinary calls. */
    private static final String[] CALL_RANGES = {
        "place 6 0 9", "way 8 0 66", "person 6 0 99 0 6", "people 3 0 5 0 12 1 6", "mend 30 0 8 0 3 0 9",
        "of 20 0 7 0 21", "feed 1 33 130", "law 1", "go 3 -9 999 1 2", "move 8 0 5 0 6", "lay 5 0 6", "commands 3",
        "led 5 0 5", "risk 6 0 5 0 623", "walk 6 0 5 0 623 0 23", "chance 2 0 5 0 2 0 1", "mean 2 0 5 0 2 0 1",
        "stand 1 0 5 0 2", "heavy 6 0 5 0 2312", "ahead 4 -9 999 1 24 -1 5 0 2", "storm 1 -9 999", "seeded 2 0 5 0 6",
        "image 2", "back 4", "undo 6", "redo 4", "body 8 0 7", "act 14 0 12 0 3 -99 99", "trace 8 0 10", "keep 5 0 5 -1 9",
        "row 6 0 5 0 4 0 9", "put 20 0 5 0 6 -3 9", "element 10 0 5 0 9", "shift 5 0 5 0 5 0 5 0 5 0 5",
        "taken 6 0 5 0 7", "count 6 0 7"
    };
    private static final int[] WILD = {-1, 0, 1, 6, 7, 9, 10, 23, 24, 25, 60, 61, 100, 999, -2, -11, 255, 256, 700,
        Integer.MAX_VALUE, Integer.MIN_VALUE, Integer.MAX_VALUE - 1, Integer.MIN_VALUE + 1};

    public static void main(String[] args) throws Exception {
        int wrong = 0;
        for (int run = 0; run < RUNS && wrong < 5; run++) {
            wrong += oneRun(run) ? 0 : 1;
        }
        System.out.println(RUNS + " runs of " + CALLS + " calls, " + wrong + " of them not as due");
        if (wrong != 0) {
            System.exit(1);
        }
    }

    private static Map<String, Method> methods(Class<?> of) {
        Map<String, Method> found = new HashMap<>();
        for (Method m : of.getDeclaredMethods()) {
            if (java.lang.reflect.Modifier.isPublic(m.getModifiers())) {
                m.setAccessible(true);
                found.put(m.getName(), m);
            }
        }
        return found;
    }

    private static List<String[]> calls() {
        List<String[]> calls = new ArrayList<>();
        for (String row : CALL_RANGES) {
            String[] words = row.split(" ");
            for (int i = 0; i < Integer.parseInt(words[1]); i++) {
                calls.add(words);
            }
        }
        return calls;
    }

    private static boolean oneRun(int run) throws Exception {
        Random random = new Random(run);
        Map<String, Method> quick = methods(HatRank.class);
        Map<String, Method> slow = methods(SlowRank.class);
        List<String[]> calls = calls();
        HatRank x = new HatRank();
        SlowRank y = new SlowRank();
        List<String> told = new ArrayList<>();
        List<Object[]> queue = new ArrayList<>();
        int wildness = run % 4 == 0 ? 10 : 100;
        if (run % 3 != 0) {
            begin(random, queue);
        }
        for (int call = 0; call < CALLS; call++) {
            if (queue.isEmpty()) {
                String[] words = calls.get(random.nextInt(calls.size()));
                if (words[0].equals("law")) {
                    feedText(random, queue);
                } else {
                    queue.add(arguments(random, words, wildness));
                }
            }
            Object[] next = queue.remove(0);
            String name = (String) next[0];
            Object[] given = java.util.Arrays.copyOfRange(next, 1, next.length);
            long got = ((Number) quick.get(name).invoke(x, given)).longValue();
            long want = ((Number) slow.get(name).invoke(y, given)).longValue();
            told.add(name + java.util.Arrays.toString(given) + " -> " + got);
            if (got != want) {
                System.out.println("run " + run + ", call " + call + ": due is " + want + " in the last of");
                told.subList(0, Math.max(0, told.size() - 30)).clear();
                told.forEach(System.out::println);
                return false;
            }
        }
        return true;
    }

    private static Object[] arguments(Random random, String[] words, int wildness) {
        Object[] call = new Object[1 + (words.length - 2) / 2];
        call[0] = words[0];
        for (int i = 1; i < call.length; i++) {
            int least = Integer.parseInt(words[2 * i]);
            int most = Integer.parseInt(words[2 * i + 1]);
            int v = least + random.nextInt(most - least + 1);
            call[i] = random.nextInt(wildness) == 0 ? WILD[random.nextInt(WILD.length)] : v;
        }
        if (words[0].equals("put")) {
            int v = (Integer) call[3];
            call[3] = random.nextInt(10) == 0 ? random.nextLong() : (long) v;
        }
        if (words[0].equals("ahead") && (Integer) call[4] != 0 && random.nextInt(8) > 0) {
            call[3] = -1;
        }
        if ((words[0].equals("risk") || words[0].equals("walk")) && random.nextInt(8) > 0) {
            call[2] = (Integer) call[2] / 100 * 100 + random.nextInt(24);
        }
        return call;
    }

    /** Enough places and people that the run is about something. */
    private static void begin(Random random, List<Object[]> queue) {
        int places = 1 + random.nextInt(7);
        for (int q = 0; q < places; q++) {
            queue.add(new Object[] {"place", random.nextInt(6)});
            queue.add(new Object[] {"mend", q, 2, random.nextInt(7)});
        }
        for (int w = random.nextInt(12); w > 0; w--) {
            queue.add(new Object[] {"way", random.nextInt(places) * 10 + random.nextInt(places)});
        }
        for (int p = 1 + random.nextInt(6); p > 0; p--) {
            queue.add(new Object[] {"person", random.nextInt(100), random.nextInt(Math.min(places, 3))});
        }
        if (random.nextBoolean()) {
            feedText(random, queue);
        }
    }

    private static void feedText(Random random, List<Object[]> queue) {
        StringBuilder text = new StringBuilder();
        for (int line = random.nextInt(3); line >= 0; line--) {
            text.append(text(random, 0));
            if (random.nextInt(3) == 0) {
                text.append('?').append(text(random, 0));
            }
            text.append(line > 0 ? ";" : "");
        }
        if (random.nextInt(4) == 0) {
            int at = random.nextInt(text.length());
            text.setCharAt(at, "()!-+*/%|&<=>?;0123gnbhpo x".charAt(random.nextInt(27)));
        }
        for (int i = 0; i < text.length() && i < 60; i++) {
            queue.add(new Object[] {"feed", (int) text.charAt(i)});
        }
        queue.add(new Object[] {"law"});
    }

    static String text(Random random, int depth) {
        int kind = random.nextInt(depth > 3 ? 8 : 20);
        if (kind < 6) {
            return "gnbhpo".substring(kind, kind + 1);
        }
        if (kind < 8) {
            return Integer.toString(random.nextInt(random.nextBoolean() ? 13 : 9999));
        }
        if (kind < 10) {
            return "!" + text(random, depth + 4);
        }
        if (kind < 12) {
            return "-" + text(random, depth + 4);
        }
        if (kind < 15) {
            return "(" + text(random, depth + 1) + ")";
        }
        String sign = random.nextInt(2) == 0 ? "+" : "|&<=>+-*/%".substring(random.nextInt(10)).substring(0, 1);
        return text(random, depth + 1) + sign + text(random, depth + 1);
    }
}
