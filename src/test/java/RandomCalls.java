import java.lang.reflect.Method;
import java.lang.reflect.Modifier;
import java.util.ArrayList;
import java.util.Arrays;
import java.util.HashMap;
import java.util.List;
import java.util.Map;
import java.util.Random;

/** Random runs of calls, each a name and its arguments. */
final class RandomCalls {
    /** By call: how often, then the least and the greatest of each argument in ordinary calls. */
    private static final String[] CALL_RANGES = {
        "place 6 0 9", "way 8 0 66", "person 6 0 99 0 6", "people 3 0 5 0 12 1 6", "mend 30 0 8 0 3 0 9",
        "of 20 0 7 0 21", "feed 1 33 130", "law 1", "go 3 -9 999 1 3", "move 8 0 5 0 6", "lay 5 0 6", "commands 3",
        "led 5 0 5", "risk 6 0 5 0 623", "walk 6 0 5 0 623 0 23", "chance 2 0 5 0 2 0 1", "mean 2 0 5 0 2 0 1",
        "stand 1 0 5 0 2", "heavy 6 0 5 0 2312", "ahead 4 -9 999 1 24 -1 5 0 2", "storm 1 -9 999", "seeded 2 0 5 0 6",
        "image 2", "back 4", "undo 6", "redo 4", "body 8 0 7", "act 14 0 12 0 3 -99 99", "trace 8 0 10", "keep 5 0 5 -1 9",
        "row 6 0 5 0 4 0 9", "put 20 0 5 0 6 -3 9", "element 10 0 5 0 9", "shift 5 0 5 0 5 0 5 0 5 0 5",
        "taken 6 0 5 0 7", "count 6 0 7"
    };
    private static final int[] WILD = {-1, 0, 1, 6, 7, 9, 10, 23, 24, 25, 60, 61, 100, 999, -2, -11, 255, 256, 700,
        Integer.MAX_VALUE, Integer.MIN_VALUE, Integer.MAX_VALUE - 1, Integer.MIN_VALUE + 1};

    private RandomCalls() {
    }

    static Map<String, Method> methods(Class<?> of) {
        Map<String, Method> found = new HashMap<>();
        for (Method m : of.getDeclaredMethods()) {
            if (Modifier.isPublic(m.getModifiers())) {
                m.setAccessible(true);
                found.put(m.getName(), m);
            }
        }
        return found;
    }

    static long ask(Object x, Map<String, Method> methods, Object[] call) throws ReflectiveOperationException {
        Object[] given = Arrays.copyOfRange(call, 1, call.length);
        return ((Number) methods.get((String) call[0]).invoke(x, given)).longValue();
    }

    /** Some runs begin with a town, some have many arguments that are far off, some go on into the night. */
    static List<Object[]> run(int number, int length) {
        Random random = new Random(number);
        List<String[]> ranges = ranges();
        List<Object[]> calls = new ArrayList<>();
        int wildness = number % 4 == 0 ? 10 : 100;
        if (number % 3 != 0) {
            begin(random, calls);
        }
        while (calls.size() < length) {
            String[] words = ranges.get(random.nextInt(ranges.size()));
            boolean late = number % 5 == 0;
            if (words[0].equals("law")) {
                feedText(random, calls);
            } else if (words[0].equals("seeded") && random.nextInt(3) > 0) {
                tellHats(random, calls);
            } else if (words[0].equals("people") && random.nextBoolean()) {
                rowOfPeople(random, calls);
            } else if (!late || !words[0].equals("back")) {
                calls.add(arguments(random, words, wildness));
            }
        }
        return new ArrayList<>(calls.subList(0, length));
    }

    private static List<String[]> ranges() {
        List<String[]> ranges = new ArrayList<>();
        for (String row : CALL_RANGES) {
            String[] words = row.split(" ");
            for (int i = 0; i < Integer.parseInt(words[1]); i++) {
                ranges.add(words);
            }
        }
        return ranges;
    }

    private static Object[] arguments(Random random, String[] words, int wildness) {
        Object[] call = new Object[1 + (words.length - 2) / 2];
        call[0] = words[0];
        for (int i = 1; i < call.length; i++) {
            int least = Integer.parseInt(words[2 * i]);
            int most = Integer.parseInt(words[2 * i + 1]);
            int v = least + random.nextInt(most - least + 1);
            call[i] = random.nextInt(wildness) == 0 ? WILD[random.nextInt(WILD.length)] : v;
        }
        if (words[0].equals("put")) {
            int v = (Integer) call[3];
            call[3] = random.nextInt(10) == 0 ? random.nextLong() : (long) v;
        }
        if (words[0].equals("ahead") && (Integer) call[4] != 0 && random.nextInt(8) > 0) {
            call[3] = -1;
        }
        if ((words[0].equals("risk") || words[0].equals("walk")) && random.nextInt(8) > 0) {
            call[2] = (Integer) call[2] / 100 * 100 + random.nextInt(24);
        }
        if (words[0].equals("walk") && (Integer) call[2] >= 0 && random.nextInt(8) > 0) {
            call[3] = random.nextInt((Integer) call[2] % 100 + 1);
        }
        if (words[0].equals("heavy") && random.nextInt(8) > 0) {
            call[2] = (Integer) call[2] / 100 * 100 + random.nextInt(13);
        }
        return call;
    }

    /** Few told hats, so that some seed of a hundred may lead to them. */
    private static void tellHats(Random random, List<Object[]> calls) {
        int shelf = random.nextInt(6);
        int told = 1 + random.nextInt(3);
        calls.add(new Object[] {"row", shelf, 0, told});
        for (int p = 0; p < told; p++) {
            calls.add(new Object[] {"put", shelf, p, (long) random.nextInt(7)});
        }
        calls.add(new Object[] {"seeded", shelf, random.nextInt(9)});
    }

    private static void rowOfPeople(Random random, List<Object[]> calls) {
        int shelf = random.nextInt(6);
        int length = random.nextInt(15);
        calls.add(new Object[] {"row", shelf, 0, length});
        for (int i = 0; i < length; i++) {
            calls.add(new Object[] {"put", shelf, i, (long) random.nextInt(random.nextInt(9) == 0 ? 12 : 5)});
        }
        calls.add(new Object[] {"people", shelf, random.nextInt(4), 1 + random.nextInt(6)});
    }

    /** Enough places and people that the run is about something. */
    private static void begin(Random random, List<Object[]> calls) {
        int places = 1 + random.nextInt(7);
        for (int q = 0; q < places; q++) {
            calls.add(new Object[] {"place", random.nextInt(6)});
            calls.add(new Object[] {"mend", q, 2, random.nextInt(7)});
        }
        for (int w = random.nextInt(12); w > 0; w--) {
            calls.add(new Object[] {"way", random.nextInt(places) * 10 + random.nextInt(places)});
        }
        for (int p = random.nextInt(3) == 0 ? 1 : 1 + random.nextInt(6); p > 0; p--) {
            calls.add(new Object[] {"person", random.nextInt(100), random.nextInt(Math.min(places, 3))});
        }
        if (random.nextBoolean()) {
            feedText(random, calls);
        }
    }

    private static void feedText(Random random, List<Object[]> calls) {
        StringBuilder text = new StringBuilder();
        for (int line = random.nextInt(3); line >= 0; line--) {
            text.append(text(random, 0));
            if (random.nextInt(3) == 0) {
                text.append('?').append(text(random, 0));
            }
            text.append(line > 0 ? ";" : "");
        }
        if (random.nextInt(4) == 0) {
            int at = random.nextInt(text.length());
            text.setCharAt(at, "()!-+*/%|&<=>?;0123gnbhpo x".charAt(random.nextInt(27)));
        }
        for (int i = 0; i < text.length() && i < 60; i++) {
            calls.add(new Object[] {"feed", (int) text.charAt(i)});
        }
        calls.add(new Object[] {"law"});
    }

    static String text(Random random, int depth) {
        int kind = random.nextInt(depth > 3 ? 8 : 20);
        if (kind < 6) {
            return "gnbhpo".substring(kind, kind + 1);
        }
        if (kind < 8) {
            return Integer.toString(random.nextInt(random.nextBoolean() ? 13 : 9999));
        }
        if (kind < 10) {
            return "!" + text(random, depth + 4);
        }
        if (kind < 12) {
            return "-" + text(random, depth + 4);
        }
        if (kind < 15) {
            return "(" + text(random, depth + 1) + ")";
        }
        String sign = random.nextInt(2) == 0 ? "+" : "|&<=>+-*/%".substring(random.nextInt(10)).substring(0, 1);
        return text(random, depth + 1) + sign + text(random, depth + 1);
    }
}
