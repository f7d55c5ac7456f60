import java.util.ArrayList;
import java.util.HashMap;
import java.util.List;
import java.util.Map;
import java.util.Set;
import java.util.regex.Matcher;
import java.util.regex.Pattern;

/** The document's grammars told again over a list of TOKENS, with a FAULT as an exception. */
final class TextModel {
    static final class Fault extends RuntimeException {
        private static final long serialVersionUID = 1L;
        final int code;
        final int place;

        Fault(int code, int place) {
            this.code = code;
            this.place = place;
        }
    }

    private static final Set<String> OWN = Set.of("call", "make", "by", "of", "much", "long", "want", "steps", "path",
            "ends", "has", "and", "or", "not");
    private static final Pattern TOKEN = Pattern.compile("[a-z]+|[0-9]+|[;()<>=+*-]");

    private record Token(String text, int place, boolean good) { }

    private final List<Token> tokens = new ArrayList<>();
    private int next;
    private int units;
    private List<Model.Step> weighed;

    TextModel(String text) {
        int at = 0;
        while (at < text.length()) {
            if (text.charAt(at) == ' ' || text.charAt(at) == '\n') {
                at++;
                continue;
            }
            Matcher m = TOKEN.matcher(text).region(at, text.length());
            String found = m.lookingAt() ? m.group() : text.substring(at, at + 1);
            boolean good = found.matches("[a-z]{1,8}|[0-9]+|[;()<>=+*-]");
            int end = at + found.length();
            if (found.matches("[0-9]+") && end < text.length() && Character.toString(text.charAt(end)).matches("[a-z]")) {
                good = false;
            }
            tokens.add(new Token(found, at, good));
            at = end;
        }
        tokens.add(new Token("", text.length(), true));
    }

    private Token now() {
        return tokens.get(next);
    }

    private boolean is(String word) {
        return now().good && now().text.equals(word);
    }

    private Fault stray() {
        return new Fault(now().good ? 2 : 1, now().place);
    }

    private void pass(String word) {
        if (!is(word)) {
            throw stray();
        }
        next++;
    }

    private boolean isName() {
        return now().good && now().text.matches("[a-z]+") && !OWN.contains(now().text);
    }

    private boolean isNumber() {
        return now().good && now().text.matches("[0-9]+");
    }

    private String name() {
        if (!isName()) {
            throw stray();
        }
        return tokens.get(next++).text;
    }

    List<Model.Step> paper() {
        Map<String, String> calls = new HashMap<>();
        while (is("call")) {
            if (calls.size() == 6) {
                throw stray();
            }
            next++;
            int place = now().place;
            String first = name();
            if (calls.containsKey(first)) {
                throw new Fault(3, place);
            }
            calls.put(first, name());
            pass(";");
        }
        List<Model.Step> steps = new ArrayList<>();
        while (is("make")) {
            if (steps.size() == 12) {
                throw stray();
            }
            steps.add(make(calls, steps));
        }
        if (next != tokens.size() - 1) {
            throw stray();
        }
        return steps;
    }

    private Model.Step make(Map<String, String> calls, List<Model.Step> steps) {
        next++;
        int place = now().place;
        String raw = name();
        String makes = calls.getOrDefault(raw, raw);
        if (Model.find(steps, makes) != null) {
            throw new Fault(3, place);
        }
        pass("by");
        raw = name();
        String verb = calls.getOrDefault(raw, raw);
        pass("of");
        List<String> needs = new ArrayList<>();
        do {
            place = now().place;
            raw = name();
            String need = calls.getOrDefault(raw, raw);
            if (needs.size() == 4) {
                throw new Fault(2, place);
            }
            if (needs.contains(need)) {
                throw new Fault(3, place);
            }
            if (need.equals(makes)) {
                throw new Fault(6, place);
            }
            needs.add(need);
        } while (isName());
        pass("much");
        int much = number(999);
        pass("long");
        int lng = number(999);
        pass(";");
        return new Model.Step(makes, verb, much, lng, needs);
    }

    private int number(int most) {
        if (!isNumber()) {
            throw stray();
        }
        Token t = now();
        if (t.text.length() > 4 || Integer.parseInt(t.text) > most) {
            throw new Fault(4, t.place);
        }
        next++;
        return Integer.parseInt(t.text);
    }

    /** The value of the text as a WANT, of a PAPER. */
    int want(List<Model.Step> paper) {
        weighed = paper;
        units = 0;
        pass("want");
        int value = any(0);
        pass(";");
        if (next != tokens.size() - 1) {
            throw stray();
        }
        return value;
    }

    int units() {
        return units;
    }

    private int any(int within) {
        int x = both(within);
        while (is("or")) {
            next++;
            int y = both(within);
            x = x != 0 || y != 0 ? 1 : 0;
        }
        return x;
    }

    private int both(int within) {
        int x = one(within);
        while (is("and")) {
            next++;
            int y = one(within);
            x = x != 0 && y != 0 ? 1 : 0;
        }
        return x;
    }

    private int one(int within) {
        if (is("not")) {
            if (within > 6) {
                throw stray();
            }
            next++;
            return one(within + 1) == 0 ? 1 : 0;
        }
        int x = sum(within);
        if (is("<")) {
            next++;
            return x < sum(within) ? 1 : 0;
        }
        if (is(">")) {
            next++;
            return x > sum(within) ? 1 : 0;
        }
        if (is("=")) {
            next++;
            return x == sum(within) ? 1 : 0;
        }
        return x;
    }

    private int sum(int within) {
        int x = term(within);
        while (is("+") || is("-")) {
            boolean plus = is("+");
            next++;
            int y = term(within);
            x = plus ? x + y : x - y;
        }
        return x;
    }

    private int term(int within) {
        int x = unit(within);
        while (is("*")) {
            next++;
            x *= unit(within);
        }
        return x;
    }

    private int unit(int within) {
        if (units == 40) {
            throw stray();
        }
        units++;
        if (isNumber()) {
            return number(9999);
        }
        if (is("(")) {
            if (within > 6) {
                throw stray();
            }
            next++;
            int x = any(within + 1);
            pass(")");
            return x;
        }
        Token t = now();
        if (is("has")) {
            next++;
            return Model.find(weighed, name()) == null ? 0 : 1;
        }
        int value;
        switch (t.good ? t.text : "") {
            case "steps": value = weighed.size(); break;
            case "much": value = weighed.stream().mapToInt(Model.Step::much).sum(); break;
            case "long": value = weighed.stream().mapToInt(Model.Step::lng).sum(); break;
            case "path": value = Model.path(weighed); break;
            case "ends": value = Model.ends(weighed).size(); break;
            default: throw stray();
        }
        next++;
        return value;
    }
}
