import java.util.ArrayList;
import java.util.List;
import java.util.Set;
import java.util.function.ToIntFunction;
import java.util.regex.Matcher;
import java.util.regex.Pattern;

/** RULES a second time: all TOKENS first, then a tree for each bar, faults by an exception. */
final class SlowRule {
    static final class Fault extends RuntimeException {
        final int place;

        Fault(int place) {
            this.place = place;
        }
    }

    interface Node {
        int value(ToIntFunction<String> names);
    }

    record Token(String text, int place) { }

    private static final Pattern TOKEN = Pattern.compile("[a-z]+|[0-9]+|[^ \n]", Pattern.DOTALL);
    private static final Set<String> NAMES = Set.of("kind", "size", "layer", "x", "y", "day");

    private final List<Token> tokens = new ArrayList<>();
    private int at = 0;
    private int open = 0;

    SlowRule(String text) {
        Matcher matcher = TOKEN.matcher(text);
        while (matcher.find()) tokens.add(new Token(matcher.group(), matcher.start()));
        tokens.add(new Token("", text.length()));
    }

    private String now() {
        return tokens.get(at).text;
    }

    private Fault fault() {
        return new Fault(tokens.get(at).place);
    }

    private boolean had(String text) {
        if (!now().equals(text)) return false;
        at++;
        return true;
    }

    private void want(String text) {
        if (!had(text)) throw fault();
    }

    private void open() {
        if (open == 5) {
            at--;
            throw fault();
        }
        open++;
    }

    List<Node> read() {
        List<Node> bars = new ArrayList<>();
        while (!now().isEmpty()) {
            if (bars.size() == 6) throw fault();
            want("bar");
            bars.add(readE());
            want(";");
        }
        return bars;
    }

    private Node readE() {
        Node left = readAnd();
        while (had("or")) {
            Node a = left, b = readAnd();
            left = names -> a.value(names) != 0 || b.value(names) != 0 ? 1 : 0;
        }
        return left;
    }

    private Node readAnd() {
        Node left = readNot();
        while (had("and")) {
            Node a = left, b = readNot();
            left = names -> a.value(names) != 0 && b.value(names) != 0 ? 1 : 0;
        }
        return left;
    }

    private Node readNot() {
        if (had("not")) {
            open();
            Node a = readNot();
            open--;
            return names -> a.value(names) == 0 ? 1 : 0;
        }
        Node a = readSum();
        if (had("<")) {
            Node b = readSum();
            return names -> a.value(names) < b.value(names) ? 1 : 0;
        }
        if (had("=")) {
            Node b = readSum();
            return names -> a.value(names) == b.value(names) ? 1 : 0;
        }
        return a;
    }

    private Node readSum() {
        Node left = readTerm();
        while (true) {
            Node a = left;
            if (had("+")) {
                Node b = readTerm();
                left = names -> a.value(names) + b.value(names);
            } else if (had("-")) {
                Node b = readTerm();
                left = names -> a.value(names) - b.value(names);
            } else {
                return left;
            }
        }
    }

    private Node readTerm() {
        Node left = readOne();
        while (had("*")) {
            Node a = left, b = readOne();
            left = names -> a.value(names) * b.value(names);
        }
        return left;
    }

    private Node readOne() {
        String text = now();
        if (had("-")) {
            open();
            Node a = readOne();
            open--;
            return names -> -a.value(names);
        }
        if (had("(")) {
            open();
            Node a = readE();
            want(")");
            open--;
            return a;
        }
        if (NAMES.contains(text)) {
            at++;
            return names -> names.applyAsInt(text);
        }
        if (text.matches("[0-9]{1,4}")) {
            at++;
            int number = Integer.parseInt(text);
            return names -> number;
        }
        throw fault();
    }
}
