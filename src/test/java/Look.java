/** What can be seen of an object, as texts. Some looks change it: each wants an object of its own. */
final class Look {
    private Look() {
    }

    static String town(HatRank x) {
        StringBuilder seen = new StringBuilder();
        for (int p = 0; p < 6; p++) {
            for (int what = 0; what <= 4; what++) {
                seen.append(x.of(p, what)).append(' ');
            }
            seen.append("led ").append(x.led(p)).append(", ");
        }
        for (int place = 0; place < 7; place++) {
            for (int what = 10; what <= 13; what++) {
                seen.append(x.of(place, what)).append(' ');
            }
        }
        for (int hour = 0; hour < 24; hour++) {
            seen.append(x.of(hour, 20));
        }
        seen.append(" commands ").append(x.commands()).append(", counts");
        for (int what = 0; what <= 7; what++) {
            seen.append(' ').append(x.count(what));
        }
        return seen.toString();
    }

    static String ways(HatRank x) {
        StringBuilder seen = new StringBuilder();
        for (int a = 0; a < 7; a++) {
            for (int b = a + 1; b < 7; b++) {
                seen.append(x.way(10 * a + b)).append(' ');
            }
        }
        return seen.toString();
    }

    static String tape(HatRank x) {
        StringBuilder seen = new StringBuilder("law ").append(x.law());
        for (int p = 0; p < 6; p++) {
            seen.append(' ').append(x.of(p, 4));
        }
        return seen.toString();
    }

    static String changesBack(HatRank x) {
        StringBuilder seen = new StringBuilder();
        seen.append(x.undo()).append(": ").append(settings(x));
        for (int i = 0; i < 41; i++) {
            seen.append(' ').append(x.undo());
        }
        return seen.append(": ").append(settings(x)).toString();
    }

    static String changesAgain(HatRank x) {
        StringBuilder seen = new StringBuilder();
        seen.append(x.redo()).append(": ").append(settings(x));
        for (int i = 0; i < 41; i++) {
            seen.append(' ').append(x.redo());
        }
        return seen.append(": ").append(settings(x)).toString();
    }

    private static String settings(HatRank x) {
        StringBuilder seen = new StringBuilder();
        for (int p = 0; p < 6; p++) {
            seen.append(x.of(p, 1)).append(' ');
        }
        for (int place = 0; place < 7; place++) {
            seen.append(x.of(place, 10)).append(' ').append(x.of(place, 11)).append(' ');
        }
        for (int hour = 0; hour < 24; hour++) {
            seen.append(x.of(hour, 20));
        }
        return seen.toString();
    }

    static String image(HatRank x) {
        return "back " + x.back() + ": " + town(x);
    }

    static String acts(HatRank x) {
        StringBuilder seen = new StringBuilder();
        for (int i = 0; i <= 24; i++) {
            seen.append(x.trace(i)).append(' ');
        }
        for (int body = 0; body <= 50; body++) {
            seen.append(x.act(body, 3, 100)).append(' ');
        }
        return seen.toString();
    }

    static String lowerShelves(HatRank x) {
        return shelf(x, 0) + shelf(x, 1) + shelf(x, 2);
    }

    static String upperShelves(HatRank x) {
        return shelf(x, 3) + shelf(x, 4) + shelf(x, 5);
    }

    private static String shelf(HatRank x, int shelf) {
        StringBuilder seen = new StringBuilder();
        for (int i = 0; i <= 60; i++) {
            seen.append(x.element(shelf, i)).append(' ');
        }
        for (int kind = 0; kind < 8; kind++) {
            seen.append(x.taken(shelf, kind)).append(' ');
        }
        // how many of its bits are kept tells a row's sort
        seen.append(x.put(shelf, 0, 0x123456789abcdefL)).append(' ').append(x.element(shelf, 0)).append("; ");
        return seen.toString();
    }
}
