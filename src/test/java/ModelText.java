import java.util.ArrayList;
import java.util.List;
import java.util.function.ToIntFunction;

/** A text for the Model: tokens first, then a tree of functions of the names' values. */
final class ModelText {
    /** Where a text has its fault. */
    static final class Fault extends RuntimeException {
        private static final long serialVersionUID = 1L;
        final int place;

        Fault(int place) {
            this.place = place;
        }
    }

    interface Value extends ToIntFunction<int[]> { }

    private record Token(String word, int place) { }

    private static final List<String> NAMES = List.of("season", "long", "had", "wrote", "age", "day");

    final Value late;
    final Value write;
    final Value keep;
    private final List<Token> tokens = new ArrayList<>();
    private int at;
    private int open;

    ModelText(String text) {
        cut(text);
        late = line("late");
        write = line("write");
        keep = line("keep");
        take("");
    }

    private void cut(String text) {
        int from = 0;
        while (from < text.length()) {
            int to = from + 1;
            char c = text.charAt(from);
            if (Character.toString(c).matches("[a-z0-9]")) {
                String like = c >= 'a' ? "[a-z]" : "[0-9]";
                while (to < text.length() && Character.toString(text.charAt(to)).matches(like)) {
                    to++;
                }
            }
            if (c != ' ' && c != '\n') {
                tokens.add(new Token(text.substring(from, to), from));
            }
            from = to;
        }
        tokens.add(new Token("", text.length()));
    }

    private boolean is(String word) {
        return tokens.get(at).word.equals(word);
    }

    private void take(String word) {
        if (!is(word)) {
            throw new Fault(tokens.get(at).place);
        }
        at++;
    }

    private void open(String word) {
        if (open == 5) {
            throw new Fault(tokens.get(at).place);
        }
        take(word);
        open++;
    }

    private Value line(String key) {
        take(key);
        Value value = any();
        take(";");
        return value;
    }

    private Value any() {
        Value left = and();
        while (is("or")) {
            take("or");
            Value a = left;
            Value b = and();
            left = names -> a.applyAsInt(names) != 0 | b.applyAsInt(names) != 0 ? 1 : 0;
        }
        return left;
    }

    private Value and() {
        Value left = not();
        while (is("and")) {
            take("and");
            Value a = left;
            Value b = not();
            left = names -> a.applyAsInt(names) != 0 & b.applyAsInt(names) != 0 ? 1 : 0;
        }
        return left;
    }

    private Value not() {
        if (is("not")) {
            open("not");
            Value a = not();
            open--;
            return names -> a.applyAsInt(names) == 0 ? 1 : 0;
        }
        Value a = sum();
        if (is("<")) {
            take("<");
            Value b = sum();
            return names -> a.applyAsInt(names) < b.applyAsInt(names) ? 1 : 0;
        }
        if (is("=")) {
            take("=");
            Value b = sum();
            return names -> a.applyAsInt(names) == b.applyAsInt(names) ? 1 : 0;
        }
        return a;
    }

    private Value sum() {
        Value left = term();
        while (is("+") || is("-")) {
            int sign = is("+") ? 1 : -1;
            at++;
            Value a = left;
            Value b = term();
            left = names -> a.applyAsInt(names) + sign * b.applyAsInt(names);
        }
        return left;
    }

    private Value term() {
        Value left = one();
        while (is("*")) {
            take("*");
            Value a = left;
            Value b = one();
            left = names -> a.applyAsInt(names) * b.applyAsInt(names);
        }
        return left;
    }

    private Value one() {
        String word = tokens.get(at).word;
        if (word.matches("[0-9]{1,4}")) {
            at++;
            int number = Integer.parseInt(word);
            return names -> number;
        }
        if (NAMES.contains(word)) {
            at++;
            int name = NAMES.indexOf(word);
            return names -> names[name];
        }
        if (word.equals("-")) {
            open("-");
            Value a = one();
            open--;
            return names -> -a.applyAsInt(names);
        }
        open("(");
        Value a = any();
        take(")");
        open--;
        return a;
    }
}
