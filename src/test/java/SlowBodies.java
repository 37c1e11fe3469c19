import java.util.ArrayList;
import java.util.List;

/** Bodies told by Java's own classes. */
final class SlowBodies {
    static final List<Integer> RAN = new ArrayList<>();

    private SlowBodies() {
    }

    interface Sits {
        int n();

        default int sits(int x) {
            RAN.add(1);
            return x + n();
        }
    }

    interface Ranks {
        int falls(int x);

        int lands(int x);

        default int ranks(int x) {
            RAN.add(2);
            return falls(x) - lands(1);
        }
    }

    static class Hat implements Sits, Ranks {
        int n;

        @Override public int n() {
            return n;
        }

        @Override public int falls(int x) {
            RAN.add(10);
            return sits(x) * 2;
        }

        @Override public int lands(int x) {
            RAN.add(11);
            return x ^ n;
        }
    }

    static class Strapped extends Hat {
        @Override public int sits(int x) {
            RAN.add(20);
            return super.sits(x) + 3;
        }
    }

    static class Blown extends Hat {
        @Override public int falls(int x) {
            RAN.add(30);
            return -super.falls(x);
        }
    }

    static class Caught extends Blown {
        @Override public int lands(int x) {
            RAN.add(40);
            return super.lands(x) * 3;
        }

        @Override public int falls(int x) {
            RAN.add(41);
            return super.falls(x + 1);
        }
    }

    static class Old extends Strapped {
        @Override public int ranks(int x) {
            RAN.add(50);
            return super.ranks(x) ^ 5;
        }
    }

    static class Lost extends Caught {
        @Override public int lands(int x) {
            RAN.add(60);
            return super.lands(x) - sits(2);
        }

        @Override public int ranks(int x) {
            RAN.add(61);
            return super.ranks(x) + 1;
        }
    }

    static class New extends Hat {
        @Override public int sits(int x) {
            RAN.add(70);
            return super.sits(x) * 2;
        }
    }

    static class Crown extends New {
        @Override public int falls(int x) {
            RAN.add(80);
            return super.falls(x) + lands(2);
        }

        @Override public int sits(int x) {
            RAN.add(81);
            return super.sits(x) - 1;
        }
    }

    static final Class<?>[] KINDS = {Hat.class, Strapped.class, Blown.class, Caught.class, Old.class, Lost.class,
        New.class, Crown.class};

    static Hat make(int kind, int number) {
        Hat[] one = {null};
        switch (kind) {
            case 0: one[0] = new Hat(); break;
            case 1: one[0] = new Strapped(); break;
            case 2: one[0] = new Blown(); break;
            case 3: one[0] = new Caught(); break;
            case 4: one[0] = new Old(); break;
            case 5: one[0] = new Lost(); break;
            case 6: one[0] = new New(); break;
            default: one[0] = new Crown(); break;
        }
        one[0].n = number;
        return one[0];
    }

    static int kind(Hat hat) {
        for (int kind = 0; kind < KINDS.length; kind++) {
            if (KINDS[kind] == hat.getClass()) {
                return kind;
            }
        }
        throw new IllegalStateException();
    }

    static int act(Hat hat, int act, int x) {
        RAN.clear();
        switch (act) {
            case 0: return hat.sits(x);
            case 1: return hat.falls(x);
            case 2: return hat.lands(x);
            default: return hat.ranks(x);
        }
    }
}
