import java.lang.reflect.Constructor;
import java.lang.reflect.Field;
import java.lang.reflect.Method;
import java.lang.reflect.Modifier;
import java.util.Arrays;
import java.util.Set;
import java.util.TreeSet;

/** The public face: the document's constants, constructor and methods, and no more. */
public final class FaceTest {
    private static final String METHODS = "place:1 way:1 person:2 people:3 mend:3 of:2 feed:1 law:0 go:2 move:2 lay:1 "
        + "commands:0 led:1 risk:2 walk:3 chance:3L mean:3L stand:2 heavy:2 ahead:4 storm:1 seeded:2 image:0 back:0 "
        + "undo:0 redo:0 body:1 act:3 trace:1 keep:2 row:3 put:3l element:2L shift:5 taken:2 count:1";
    private static final Due due = new Due();

    public static void main(String[] args) {
        due.is("BAD", HatRank.BAD, -1);
        due.is("NOT", HatRank.NOT, -2);
        due.is("FULL", HatRank.FULL, -3);
        due.is("STATE", HatRank.STATE, -5);
        due.is("VOID", HatRank.VOID, -2000000000);
        due.holds("public and final", Modifier.isPublic(HatRank.class.getModifiers())
            && Modifier.isFinal(HatRank.class.getModifiers()));
        methods();
        fields();
        constructors();
        classes();
        due.end();
    }

    private static void methods() {
        Set<String> want = new TreeSet<>(Arrays.asList(METHODS.split(" ")));
        Set<String> names = new TreeSet<>();
        Set<String> got = new TreeSet<>();
        for (Method m : HatRank.class.getDeclaredMethods()) {
            if (!Modifier.isPrivate(m.getModifiers())) {
                Class<?>[] types = m.getParameterTypes();
                boolean lastLong = types.length > 0 && types[types.length - 1] == long.class;
                got.add(m.getName() + ":" + types.length + (lastLong ? "l" : "")
                    + (m.getReturnType() == long.class ? "L" : ""));
                names.add(m.getName());
                due.holds(m + " is public", Modifier.isPublic(m.getModifiers()) && !Modifier.isStatic(m.getModifiers()));
            }
        }
        due.holds("methods " + got, got.equals(want));
        for (Method m : HatRank.class.getDeclaredMethods()) {
            due.holds(m + " bears a public one's name", !Modifier.isPrivate(m.getModifiers()) || !names.contains(m.getName()));
        }
        for (Class<?> inside : HatRank.class.getDeclaredClasses()) {
            for (Method m : inside.getDeclaredMethods()) {
                due.holds(m + " bears a public one's name", !names.contains(m.getName()));
                due.holds(m + " takes at most seven", m.getParameterCount() <= 7);
            }
        }
    }

    private static void fields() {
        Set<String> got = new TreeSet<>();
        for (Field f : HatRank.class.getDeclaredFields()) {
            if (!Modifier.isPrivate(f.getModifiers())) {
                got.add(f.getName() + " " + Modifier.toString(f.getModifiers()) + " " + f.getType());
            }
        }
        String kind = " public static final int";
        due.holds("fields " + got, got.equals(new TreeSet<>(Arrays.asList("BAD" + kind, "NOT" + kind, "FULL" + kind,
            "STATE" + kind, "VOID" + kind))));
    }

    private static void constructors() {
        Constructor<?>[] all = HatRank.class.getDeclaredConstructors();
        due.is("constructors", all.length, 1);
        due.holds("public, without arguments", Modifier.isPublic(all[0].getModifiers()) && all[0].getParameterCount() == 0);
    }

    private static void classes() {
        due.holds("some twelve classes", HatRank.class.getDeclaredClasses().length <= 11);
        for (Class<?> inside : HatRank.class.getDeclaredClasses()) {
            due.holds(inside + " is static", Modifier.isStatic(inside.getModifiers()));
            due.holds(inside + " is not public", !Modifier.isPublic(inside.getModifiers())
                && !Modifier.isProtected(inside.getModifiers()));
            int fields = 0;
            for (Field f : inside.getDeclaredFields()) {
                fields += Modifier.isStatic(f.getModifiers()) ? 0 : 1;
                due.holds(f + " is final, if static", !Modifier.isStatic(f.getModifiers()) || Modifier.isFinal(f.getModifiers()));
            }
            due.holds(inside + " has at most twenty fields", fields <= 20);
        }
    }
}
