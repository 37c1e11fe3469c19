import java.lang.reflect.Method;
import java.nio.file.Files;
import java.nio.file.Path;
import java.util.HashSet;
import java.util.Map;
import java.util.Set;
import java.util.regex.Matcher;
import java.util.regex.Pattern;

/** README.md's blocks of calls: each call is answered as the page says. */
public final class ReadmeTest {
    private static final Pattern CALL = Pattern.compile("x\\.(\\w+)\\((.*?)\\);\\s*// (Long\\.MIN_VALUE|-?\\d+)(:.*)?");
    private static final Due due = new Due();

    public static void main(String[] args) throws Exception {
        Path page = Path.of(System.getProperty("hatrank.readme", "README.md"));
        Map<String, Method> methods = RandomCalls.methods(HatRank.class);
        Set<String> called = new HashSet<>();
        HatRank x = null;
        for (String line : Files.readAllLines(page)) {
            if (line.equals("HatRank x = new HatRank();")) {
                x = new HatRank();
            } else if (line.startsWith("x.")) {
                Matcher call = CALL.matcher(line);
                boolean told = call.matches();
                due.holds("a call with its answer: " + line, told);
                if (told) {
                    called.add(call.group(1));
                    due.is(line, ask(x, methods.get(call.group(1)), call.group(2)), answer(call.group(3)));
                }
            }
        }
        due.is("calls that the page shows", called.size(), methods.size());
        due.end();
    }

    private static long answer(String told) {
        return told.equals("Long.MIN_VALUE") ? Long.MIN_VALUE : Long.parseLong(told);
    }

    private static long ask(HatRank x, Method method, String told) throws ReflectiveOperationException {
        Class<?>[] types = method.getParameterTypes();
        String[] words = told.isEmpty() ? new String[0] : told.split(", ");
        Object[] given = new Object[types.length];
        for (int i = 0; i < types.length; i++) {
            long v = words[i].startsWith("'") ? words[i].charAt(1) : Long.parseLong(words[i]);
            if (types[i] == long.class) {
                given[i] = v;
            } else {
                given[i] = (int) v;
            }
        }
        return ((Number) method.invoke(x, given)).longValue();
    }
}
