import java.util.ArrayList;
import java.util.List;
import java.util.Map;

/** Orders read byte by byte, as trees, for Mirror. */
final class OrderText {
    static final class Fault extends RuntimeException {
        final int kind;
        final int place;

        Fault(int kind, int place) {
            this.kind = kind;
            this.place = place;
        }
    }

    interface Value {
        int of(Map<String, Integer> values);
    }

    static final class Rule {
        Value when;
        int act;
        Value much;
    }

    private static final List<String> ACTS = List.of("hold", "drop", "valve", "land");
    private static final List<String> NAMES =
        List.of("level", "hour", "sun", "cloud", "bags", "gas", "lift", "load", "x", "y");

    private final String text;
    private int at = 0;
    private int opened = 0;

    OrderText(String text) {
        this.text = text;
    }

    /** What comes next, blanks left out: a word, a number, a sign, or "" at the end. */
    private String peek() {
        while (at < text.length() && text.charAt(at) == ' ') {
            at++;
        }
        int end = at;
        while (end < text.length() && text.charAt(end) >= 'a' && text.charAt(end) <= 'z') {
            end++;
        }
        if (end == at) {
            while (end < text.length() && text.charAt(end) >= '0' && text.charAt(end) <= '9') {
                end++;
            }
        }
        if (end == at && end < text.length()) {
            end++;
        }
        return text.substring(at, end);
    }

    private boolean eats(String wanted) {
        if (!peek().equals(wanted)) {
            return false;
        }
        at += wanted.length();
        return true;
    }

    private void eat(String wanted) {
        if (!eats(wanted)) {
            throw new Fault(1, at);
        }
    }

    private void open(String sign) {
        if (!peek().equals(sign)) {
            throw new Fault(1, at);
        }
        if (opened == 8) {
            throw new Fault(3, at);
        }
        opened++;
        eat(sign);
    }

    List<Rule> rules() {
        List<Rule> rules = new ArrayList<>();
        while (!peek().isEmpty()) {
            if (!peek().equals("if") && !ACTS.contains(peek())) {
                throw new Fault(1, at);
            }
            if (rules.size() == 12) {
                throw new Fault(3, at);
            }
            Rule rule = new Rule();
            if (eats("if")) {
                rule.when = any();
                eat(":");
            }
            rule.act = ACTS.indexOf(peek());
            if (rule.act < 0) {
                throw new Fault(1, at);
            }
            eat(peek());
            if (rule.act == 1 || rule.act == 2) {
                rule.much = sum();
            }
            eat(";");
            rules.add(rule);
        }
        return rules;
    }

    private Value any() {
        Value left = all();
        while (eats("or")) {
            Value a = left;
            Value b = all();
            left = v -> a.of(v) != 0 || b.of(v) != 0 ? 1 : 0;
        }
        return left;
    }

    private Value all() {
        Value left = one();
        while (eats("and")) {
            Value a = left;
            Value b = one();
            left = v -> a.of(v) != 0 && b.of(v) != 0 ? 1 : 0;
        }
        return left;
    }

    private Value one() {
        if (peek().equals("not")) {
            open("not");
            Value inner = one();
            opened--;
            return v -> inner.of(v) == 0 ? 1 : 0;
        }
        if (peek().equals("[")) {
            open("[");
            Value inner = any();
            eat("]");
            opened--;
            return inner;
        }
        Value a = sum();
        String sign = peek();
        if (sign.isEmpty() || !"<>=".contains(sign)) {
            throw new Fault(1, at);
        }
        eat(sign);
        Value b = sum();
        return v -> {
            int order = Integer.compare(a.of(v), b.of(v));
            return (sign.equals("<") ? order < 0 : sign.equals(">") ? order > 0 : order == 0) ? 1 : 0;
        };
    }

    private Value sum() {
        Value left = product();
        while (peek().equals("+") || peek().equals("-")) {
            boolean plus = peek().equals("+");
            eat(peek());
            Value a = left;
            Value b = product();
            left = v -> plus ? a.of(v) + b.of(v) : a.of(v) - b.of(v);
        }
        return left;
    }

    private Value product() {
        Value left = unit();
        while (peek().equals("*") || peek().equals("/")) {
            boolean times = peek().equals("*");
            eat(peek());
            Value a = left;
            Value b = unit();
            left = v -> times ? a.of(v) * b.of(v) : b.of(v) == 0 ? 0 : a.of(v) / b.of(v);
        }
        return left;
    }

    private Value unit() {
        String next = peek();
        if (next.matches("[0-9]+")) {
            if (new java.math.BigInteger(next).bitLength() > 14 || Integer.parseInt(next) > 9999) {
                throw new Fault(2, at);
            }
            int number = Integer.parseInt(next);
            eat(next);
            return v -> number;
        }
        if (NAMES.contains(next)) {
            eat(next);
            return v -> v.get(next);
        }
        if (next.equals("least") || next.equals("most")) {
            eat(next);
            open("(");
            Value a = sum();
            eat(",");
            Value b = sum();
            eat(")");
            opened--;
            return v -> next.equals("least") ? Math.min(a.of(v), b.of(v)) : Math.max(a.of(v), b.of(v));
        }
        open("(");
        Value inner = sum();
        eat(")");
        opened--;
        return inner;
    }
}
