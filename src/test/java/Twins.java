import java.lang.reflect.Method;
import java.util.ArrayList;
import java.util.Arrays;
import java.util.List;
import java.util.function.Function;
import java.util.function.Supplier;

/** Objects made alike: one gets a call, the other does not, and all that can be seen of the two is compared. */
final class Twins {
    static final List<Function<HatRank, String>> LOOKS = List.of(Look::town, Look::ways, Look::tape,
        Look::changesBack, Look::changesAgain, Look::image, Look::acts, Look::lowerShelves, Look::upperShelves);

    private final Due due;
    private final Supplier<HatRank> made;
    private final List<String> seen = new ArrayList<>();

    Twins(Due due, Supplier<HatRank> made) {
        this.due = due;
        this.made = made;
        for (Function<HatRank, String> look : LOOKS) {
            seen.add(look.apply(made.get()));
        }
    }

    /** The call is answered so, and leaves all as it was. */
    void leaves(long want, String call, long... given) {
        String told = call + Arrays.toString(given);
        due.is(told, ask(made.get(), call, given), want);
        for (int i = 0; i < LOOKS.size(); i++) {
            HatRank x = made.get();
            ask(x, call, given);
            String now = LOOKS.get(i).apply(x);
            due.holds(told + " leaves all as it was:\n  " + seen.get(i) + "\n  " + now, now.equals(seen.get(i)));
        }
    }

    /** The call is answered so, and something is not as it was; the object is handed out to be looked at. */
    HatRank changes(long want, String call, long... given) {
        String told = call + Arrays.toString(given);
        HatRank answering = made.get();
        due.is(told, ask(answering, call, given), want);
        boolean changed = false;
        for (int i = 0; i < LOOKS.size(); i++) {
            HatRank x = made.get();
            ask(x, call, given);
            changed |= !LOOKS.get(i).apply(x).equals(seen.get(i));
        }
        due.holds(told + " changes something", changed);
        return answering;
    }

    private static long ask(HatRank x, String call, long[] given) {
        for (Method m : HatRank.class.getMethods()) {
            if (m.getName().equals(call) && m.getParameterCount() == given.length) {
                Class<?>[] types = m.getParameterTypes();
                Object[] arguments = new Object[given.length];
                for (int i = 0; i < given.length; i++) {
                    if (types[i] == long.class) {
                        arguments[i] = given[i];
                    } else {
                        arguments[i] = Math.toIntExact(given[i]);
                    }
                }
                try {
                    return ((Number) m.invoke(x, arguments)).longValue();
                } catch (ReflectiveOperationException e) {
                    throw new IllegalStateException(call + Arrays.toString(given) + " threw", e);
                }
            }
        }
        throw new IllegalStateException("no call " + call + " with " + given.length + " arguments");
    }
}
