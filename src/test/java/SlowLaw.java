/** A law read and worked out in another way than the class does it: by a row of states, and by splitting texts. */
final class SlowLaw {
    private SlowLaw() {
    }

    /** The fault's place, or -1. */
    static int fault(String text) {
        StringBuilder open = new StringBuilder();
        StringBuilder compared = new StringBuilder("n");
        boolean wanted = true;
        boolean asked = false;
        int digits = 0;
        for (int i = 0; i < text.length(); i++) {
            char c = text.charAt(i);
            int last = compared.length() - 1;
            if (wanted && "(!-".indexOf(c) >= 0) {
                if (open.length() == 6) {
                    return i;
                }
                open.append(c);
                if (c == '(') {
                    compared.append('n');
                }
            } else if (wanted && ("gnbhpo".indexOf(c) >= 0 || c >= '0' && c <= '9')) {
                digits = c >= '0' && c <= '9' ? 1 : 0;
                wanted = false;
                closeSigns(open);
            } else if (!wanted && digits > 0 && digits < 4 && c >= '0' && c <= '9') {
                digits++;
            } else if (!wanted && c == ')' && open.length() > 0) {
                open.setLength(open.length() - 1);
                compared.setLength(last);
                closeSigns(open);
                digits = 0;
            } else if (!wanted && "+-*/%".indexOf(c) >= 0) {
                wanted = true;
            } else if (!wanted && "|&".indexOf(c) >= 0) {
                wanted = true;
                compared.setCharAt(last, 'n');
            } else if (!wanted && "<=>".indexOf(c) >= 0 && compared.charAt(last) == 'n') {
                wanted = true;
                compared.setCharAt(last, 'y');
            } else if (!wanted && open.length() == 0 && (c == ';' || c == '?' && !asked)) {
                wanted = true;
                asked = c == '?';
                compared.setCharAt(0, 'n');
            } else {
                return i;
            }
        }
        return wanted || open.length() > 0 ? text.length() : -1;
    }

    private static void closeSigns(StringBuilder open) {
        while (open.length() > 0 && open.charAt(open.length() - 1) != '(') {
            open.setLength(open.length() - 1);
        }
    }

    /** What a text without a fault gives; named: g n b h p o. */
    static int value(String text, int[] named) {
        for (String line : text.split(";")) {
            int mark = line.indexOf('?');
            if (mark < 0) {
                return part(line, named);
            }
            if (part(line.substring(0, mark), named) != 0) {
                return part(line.substring(mark + 1), named);
            }
        }
        return 0;
    }

    private static int part(String text, int[] named) {
        for (String signs : new String[] {"|", "&", "<=>", "+-", "*/%"}) {
            int at = lastSign(text, signs);
            if (at > 0) {
                return join(text.charAt(at), part(text.substring(0, at), named), part(text.substring(at + 1), named));
            }
        }
        char c = text.charAt(0);
        if (c == '!') {
            return part(text.substring(1), named) == 0 ? 1 : 0;
        }
        if (c == '-') {
            return -part(text.substring(1), named);
        }
        if (c == '(') {
            return part(text.substring(1, text.length() - 1), named);
        }
        int name = "gnbhpo".indexOf(c);
        return name >= 0 ? named[name] : Integer.parseInt(text);
    }

    /** The last of these signs between two operands, outside of brackets. */
    private static int lastSign(String text, String signs) {
        int depth = 0;
        for (int i = text.length() - 1; i > 0; i--) {
            char c = text.charAt(i);
            depth += c == ')' ? 1 : c == '(' ? -1 : 0;
            boolean between = Character.isLetterOrDigit(text.charAt(i - 1)) || text.charAt(i - 1) == ')';
            if (depth == 0 && between && signs.indexOf(c) >= 0) {
                return i;
            }
        }
        return -1;
    }

    private static int join(char sign, int a, int b) {
        switch (sign) {
            case '|': return (a == 0 ? 0 : 1) | (b == 0 ? 0 : 1);
            case '&': return (a == 0 ? 0 : 1) & (b == 0 ? 0 : 1);
            case '<': return Integer.compare(a, b) < 0 ? 1 : 0;
            case '=': return Integer.compare(a, b) == 0 ? 1 : 0;
            case '>': return Integer.compare(a, b) > 0 ? 1 : 0;
            case '+': return (int) ((long) a + b);
            case '-': return (int) ((long) a - b);
            case '*': return (int) ((long) a * b);
            case '/': return b == 0 ? 0 : (int) ((long) a / b);
            default: return b == 0 ? 0 : (int) ((long) a % b);
        }
    }
}
