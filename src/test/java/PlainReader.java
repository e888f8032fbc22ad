import java.util.ArrayList;
import java.util.HashMap;
import java.util.List;
import java.util.Map;

/** Reads texts by the document's words, for the second, plain kit; what can't be there is thrown as a Fault. */
final class PlainReader {
    static final List<String> STATES = List.of("hover", "press", "focus", "check", "off");
    static final List<String> PROPERTIES = List.of("ink", "paper", "edge", "line", "pad", "gap", "wide", "tall", "grow",
        "align", "hide", "dir", "shape");
    static final int[] MOST = {0, 0, 0, 3, 9, 9, 96, 64, 9, 3, 1, 1, 8};

    /** What can't be there: its place. */
    static final class Fault extends RuntimeException {
        private static final long serialVersionUID = 1;
        final int place;

        Fault(int place) {
            this.place = place;
        }
    }

    /** Marks of one widget: a kind ("" is any) and what is behind # . and : */
    record Compound(String kind, List<String> marks) {
    }

    /** Compounds, and what stands ahead of each: > or a blank. */
    record Selector(List<Compound> compounds, String between) {
        int weight() {
            int weight = 0;
            for (Compound c : compounds) {
                weight += c.kind.isEmpty() ? 0 : 1;
                for (String mark : c.marks) {
                    weight += mark.startsWith("#") ? 100 : 10;
                }
            }
            return weight;
        }
    }

    /** A declaration of a rule. */
    record Declaration(int property, int value) {
    }

    /** A rule. */
    record Rule(List<Selector> selectors, List<Declaration> declarations) {
    }

    private final String text;
    private int at;
    private final List<PlainWidget> there = new ArrayList<>();

    PlainReader(String text) {
        this.text = text;
    }

    private int peek() {
        return at < text.length() ? text.charAt(at) : -1;
    }

    private boolean take(char c) {
        boolean is = peek() == c;
        at += is ? 1 : 0;
        return is;
    }

    private void need(char c) {
        check(take(c), at);
    }

    private static void check(boolean good, int place) {
        if (!good) {
            throw new Fault(place);
        }
    }

    private boolean blanks() {
        int from = at;
        while (peek() == ' ' || peek() == '\n') {
            at++;
        }
        return at > from;
    }

    private boolean isLower() {
        return peek() >= 'a' && peek() <= 'z';
    }

    private boolean isDigit() {
        return peek() >= '0' && peek() <= '9';
    }

    private String word() {
        int from = at;
        check(isLower(), at);
        while (isLower() || isDigit()) {
            check(at - from < 8, at);
            at++;
        }
        return text.substring(from, at);
    }

    private String word(List<String> words) {
        int from = at;
        String word = word();
        check(words.contains(word), from);
        return word;
    }

    private int number(int least, int most) {
        blanks();
        int from = at;
        check(isDigit(), at);
        while (isDigit()) {
            check(at - from < 7, at);
            at++;
        }
        int n = Integer.parseInt(text.substring(from, at));
        check(n >= least && n <= most, from);
        return n;
    }

    private void ended() {
        check(at == text.length(), at);
    }

    // ---- forms ----

    /** One widget, which comes into a box (or into none) beside those that are there. */
    PlainWidget widget(PlainWidget box, List<PlainWidget> others) {
        there.addAll(others);
        PlainWidget w = widget(box == null ? 0 : box.depth());
        blanks();
        ended();
        return w;
    }

    private PlainWidget widget(int around) {
        blanks();
        int from = at;
        PlainWidget w = new PlainWidget(word(PlainWidget.KINDS));
        check(there.size() < 60 && around <= 10, from);
        there.add(w);
        blanks();
        if (take('#')) {
            int name = at;
            String told = word();
            check(there.stream().noneMatch(other -> other.name.equals(told)), name);
            w.name = told;
            blanks();
        }
        while (w.classes.size() < 3 && take('.')) {
            w.classes.add(word());
            blanks();
        }
        if (take('(')) {
            attributes(w);
            blanks();
        }
        if (take('"')) {
            w.text = text();
            blanks();
        }
        w.caret = w.is("field") ? w.text.length() : 0;
        w.anchor = w.caret;
        if (w.isBox() && peek() == '{') {
            check(around < 10, at);
            at++;
            kids(w, around + 1);
        }
        return w;
    }

    private void kids(PlainWidget w, int around) {
        blanks();
        while (!take('}')) {
            check(!w.is("scroll") || w.kids.isEmpty(), at);
            PlainWidget kid = widget(around);
            kid.parent = w;
            w.kids.add(kid);
            blanks();
        }
    }

    private String text() {
        int from = at;
        while (peek() >= ' ' && peek() != '"' && at - from < 40) {
            at++;
        }
        need('"');
        return text.substring(from, at - 1);
    }

    private void attributes(PlainWidget w) {
        do {
            blanks();
            int from = at;
            String a = word();
            int[] range = range(a, w.kind);
            check(range.length > 0 && !w.told.containsKey(a), from);
            blanks();
            need('=');
            w.told.put(a, number(range[0], range[1]));
            blanks();
            if (a.equals("do")) {
                check("+-=".indexOf(peek()) >= 0, at);
                w.told.put("sign", peek());
                at++;
                w.told.put("by", number(0, 999));
                blanks();
            }
        } while (take(','));
        need(')');
    }

    private static int[] range(String attribute, String kind) {
        switch (attribute + " of " + kind) {
            case "cols of grid": return new int[] {1, 8};
            case "rows of list": return new int[] {0, 1000000};
            case "pick of radio": return new int[] {0, 999};
            case "wide of field": return new int[] {1, 40};
            case "wrap of label": return new int[] {0, 1};
            case "img of picture": return new int[] {1, 4};
            case "do of button": return new int[] {0, 15};
            default: break;
        }
        switch (attribute) {
            case "bind": return new int[] {0, 15};
            case "least": case "most": return new int[] {0, 999};
            case "off": return new int[] {0, 1};
            default: return new int[0];
        }
    }

    // ---- rules ----

    List<Rule> rules() {
        List<Rule> rules = new ArrayList<>();
        int selectors = 0;
        blanks();
        while (peek() >= 0) {
            Rule rule = new Rule(new ArrayList<>(), new ArrayList<>());
            do {
                blanks();
                check(selectors < 40, at);
                rule.selectors.add(selector());
                selectors++;
                blanks();
            } while (take(','));
            need('{');
            blanks();
            while (!take('}')) {
                check(rule.declarations.size() < 8, at);
                rule.declarations.add(declaration());
                blanks();
            }
            rules.add(rule);
            blanks();
        }
        return rules;
    }

    private Selector selector() {
        List<Compound> compounds = new ArrayList<>();
        StringBuilder between = new StringBuilder();
        do {
            check(compounds.size() < 4, at);
            compounds.add(compound());
        } while (goesOn(between));
        return new Selector(compounds, between.toString());
    }

    private boolean goesOn(StringBuilder between) {
        boolean blank = blanks();
        if (take('>')) {
            blanks();
            between.append('>');
            return true;
        }
        between.append(' ');
        return blank && peek() != ',' && peek() != '{' && peek() >= 0;
    }

    private Compound compound() {
        int from = at;
        String kind = isLower() ? word(PlainWidget.KINDS) : "";
        if (kind.isEmpty()) {
            take('*');
        }
        List<String> marks = new ArrayList<>();
        while (marks.size() < 4 && (peek() == '#' || peek() == '.' || peek() == ':')) {
            char mark = text.charAt(at);
            at++;
            marks.add(mark + (mark == ':' ? word(STATES) : word()));
        }
        check(at > from, at);
        return new Compound(kind, marks);
    }

    private Declaration declaration() {
        int p = PROPERTIES.indexOf(word(PROPERTIES));
        blanks();
        need(':');
        blanks();
        int value = p < 3 ? colour() : number(0, MOST[p]);
        blanks();
        need(';');
        return new Declaration(p, value);
    }

    private int colour() {
        int from = at;
        while (at < from + 8) {
            check(isDigit() || (peek() >= 'a' && peek() <= 'f'), at);
            at++;
        }
        return (int) Long.parseLong(text.substring(from, at), 16);
    }

    // ---- shapes, data, tongues ----

    /** The rings of a shape, each x, y, x, y and so on. */
    List<List<Integer>> rings() {
        List<List<Integer>> rings = new ArrayList<>();
        int points = 0;
        blanks();
        while (peek() >= 0) {
            check(peek() == 'm' && points < 64, at);
            at++;
            List<Integer> ring = new ArrayList<>(List.of(number(0, 256), number(0, 256)));
            blanks();
            while (ring.size() < 6 || !take('z')) {
                int size = points + ring.size() / 2;
                check((peek() == 'l' && size < 64) || (peek() == 'q' && size <= 56), at);
                at++;
                if (text.charAt(at - 1) == 'l') {
                    ring.addAll(List.of(number(0, 256), number(0, 256)));
                } else {
                    bend(ring, List.of(number(0, 256), number(0, 256), number(0, 256), number(0, 256)));
                }
                blanks();
            }
            points += ring.size() / 2;
            rings.add(ring);
            blanks();
        }
        return rings;
    }

    private static void bend(List<Integer> ring, List<Integer> told) {
        int n = ring.size();
        for (int k = 1; k <= 8; k++) {
            for (int axis = 0; axis < 2; axis++) {
                int a = ring.get(n - 2 + axis);
                ring.add(((8 - k) * (8 - k) * a + 2 * k * (8 - k) * told.get(axis) + k * k * told.get(2 + axis)) / 64);
            }
        }
    }

    List<List<String>> data() {
        List<List<String>> lines = new ArrayList<>();
        while (peek() >= 0) {
            if (take('\n')) {
                continue;
            }
            check(lines.size() < 40, at);
            List<String> parts = new ArrayList<>();
            do {
                check(parts.size() < 4, at - 1);
                int from = at;
                while (peek() >= ' ' && peek() != ',') {
                    check(at - from < 8, at);
                    at++;
                }
                parts.add(text.substring(from, at));
            } while (take(','));
            lines.add(parts);
        }
        return lines;
    }

    Map<String, String> tongue() {
        Map<String, String> lines = new HashMap<>();
        while (peek() >= 0) {
            if (take('\n')) {
                continue;
            }
            check(lines.size() < 20, at);
            int from = at;
            String word = word();
            check(!lines.containsKey(word), from);
            need('=');
            from = at;
            while (peek() >= ' ') {
                check(at - from < 40 && peek() != '"', at);
                at++;
            }
            lines.put(word, text.substring(from, at));
        }
        return lines;
    }
}
