import java.util.ArrayList;
import java.util.List;

/** Promises 3 to 5, 29, 37, 39: random texts with faults, beside plain readers of the document's words. */
public final class ReadRunsTest {
    private static final List<String> KINDS = List.of("row", "col", "grid", "stack", "flow", "scroll", "label", "button", "check",
        "radio", "field", "slider", "list", "gap", "tabs", "dialog", "tree", "table", "picture");
    private static final List<String> BOXES = List.of("row", "col", "grid", "stack", "flow", "scroll", "tabs", "dialog");
    private static final List<String> PROPERTIES = List.of("ink", "paper", "edge", "line", "pad", "gap", "wide", "tall", "grow",
        "align", "hide", "dir", "shape");
    private static final int[] MOST = {0, 0, 0, 3, 9, 9, 96, 64, 9, 3, 1, 1, 8};

    /** What can't be there: its place. */
    private static final class Fault extends RuntimeException {
        private static final long serialVersionUID = 1;
        final int place;

        Fault(int place) {
            this.place = place;
        }
    }

    private final String text;
    private int at;
    private int widgets;
    private final List<String> names = new ArrayList<>();
    private int points;

    private ReadRunsTest(String text) {
        this.text = text;
    }

    private char peek() {
        return at < text.length() ? text.charAt(at) : 0;
    }

    private boolean take(char c) {
        if (peek() == c) {
            at++;
            return true;
        }
        return false;
    }

    private void need(char c) {
        if (!take(c)) {
            throw new Fault(at);
        }
    }

    private void blanks() {
        while (peek() == ' ' || peek() == '\n') {
            at++;
        }
    }

    private String word() {
        int from = at;
        while (peek() >= 'a' && peek() <= 'z' || at > from && peek() >= '0' && peek() <= '9') {
            at++;
            if (at - from > 8) {
                throw new Fault(at - 1);
            }
        }
        if (at == from) {
            throw new Fault(at);
        }
        return text.substring(from, at);
    }

    private int number(int least, int most) {
        int from = at;
        while (peek() >= '0' && peek() <= '9') {
            at++;
            if (at - from > 7) {
                throw new Fault(at - 1);
            }
        }
        if (at == from) {
            throw new Fault(at);
        }
        int n = Integer.parseInt(text.substring(from, at));
        if (n < least || n > most) {
            throw new Fault(from);
        }
        return n;
    }

    // ---- a form ----

    private void widget(int around) {
        blanks();
        int from = at;
        String kind = word();
        if (!KINDS.contains(kind) || widgets == 60 || around > 10) {
            throw new Fault(from);
        }
        widgets++;
        blanks();
        if (take('#')) {
            int name = at;
            String told = word();
            if (names.contains(told)) {
                throw new Fault(name);
            }
            names.add(told);
        }
        blanks();
        for (int n = 0; n < 3 && take('.'); n++) {
            word();
            blanks();
        }
        if (take('(')) {
            attributes(kind);
        }
        blanks();
        if (take('"')) {
            for (int n = 0; n < 40 && peek() != '"' && peek() != '\n' && at < text.length(); n++) {
                at++;
            }
            need('"');
        }
        blanks();
        if (BOXES.contains(kind) && peek() == '{') {
            if (around == 10) {
                throw new Fault(at);
            }
            at++;
            blanks();
            for (int n = 0; !take('}'); n++) {
                if (n == 1 && kind.equals("scroll")) {
                    throw new Fault(at);
                }
                widget(around + 1);
                blanks();
            }
        }
    }

    private void attributes(String kind) {
        List<String> told = new ArrayList<>();
        do {
            blanks();
            int from = at;
            String word = word();
            int[] range = range(word, kind);
            if (range == null || told.contains(word)) {
                throw new Fault(from);
            }
            told.add(word);
            blanks();
            need('=');
            blanks();
            number(range[0], range[1]);
            blanks();
            if (word.equals("do")) {
                if ("+-=".indexOf(peek()) < 0 || peek() == 0) {
                    throw new Fault(at);
                }
                at++;
                blanks();
                number(0, 999);
                blanks();
            }
        } while (take(','));
        need(')');
    }

    private static int[] range(String word, String kind) {
        switch (word) {
            case "cols": return kind.equals("grid") ? new int[] {1, 8} : null;
            case "bind": return new int[] {0, 15};
            case "least": case "most": return new int[] {0, 999};
            case "rows": return kind.equals("list") ? new int[] {0, 1000000} : null;
            case "pick": return kind.equals("radio") ? new int[] {0, 999} : null;
            case "wide": return kind.equals("field") ? new int[] {1, 40} : null;
            case "wrap": return kind.equals("label") ? new int[] {0, 1} : null;
            case "off": return new int[] {0, 1};
            case "img": return kind.equals("picture") ? new int[] {1, 4} : null;
            case "do": return kind.equals("button") ? new int[] {0, 15} : null;
            default: return null;
        }
    }

    private int form() {
        widget(0);
        blanks();
        if (at < text.length()) {
            throw new Fault(at);
        }
        return widgets;
    }

    // ---- rules ----

    private int rules() {
        int selectors = 0;
        blanks();
        while (at < text.length()) {
            do {
                blanks();
                if (selectors == 40) {
                    throw new Fault(at);
                }
                selector();
                selectors++;
            } while (take(','));
            need('{');
            blanks();
            for (int n = 0; !take('}'); n++) {
                if (n == 8) {
                    throw new Fault(at);
                }
                declaration();
                blanks();
            }
            blanks();
        }
        return selectors;
    }

    private void selector() {
        for (int n = 0; ; n++) {
            if (n == 4) {
                throw new Fault(at);
            }
            compound();
            boolean blank = peek() == ' ' || peek() == '\n';
            blanks();
            boolean more = take('>');
            blanks();
            if (!more && (!blank || peek() == ',' || peek() == '{' || peek() == 0)) {
                return;
            }
        }
    }

    private void compound() {
        int from = at;
        if (!take('*') && peek() >= 'a' && peek() <= 'z') {
            if (!KINDS.contains(word())) {
                throw new Fault(from);
            }
        }
        for (int n = 0; n < 4; n++) {
            if (take('#') || take('.')) {
                word();
            } else if (take(':')) {
                int state = at;
                if (!List.of("hover", "press", "focus", "check", "off").contains(word())) {
                    throw new Fault(state);
                }
            }
        }
        if (at == from) {
            throw new Fault(at);
        }
    }

    private void declaration() {
        int from = at;
        int p = PROPERTIES.indexOf(word());
        if (p < 0) {
            throw new Fault(from);
        }
        blanks();
        need(':');
        blanks();
        if (p < 3) {
            for (int n = 0; n < 8; n++) {
                if ("0123456789abcdef".indexOf(peek()) < 0 || peek() == 0) {
                    throw new Fault(at);
                }
                at++;
            }
        } else {
            number(0, MOST[p]);
        }
        blanks();
        need(';');
    }

    // ---- a shape, data, a tongue ----

    private int shape() {
        blanks();
        while (at < text.length()) {
            if (peek() != 'm' || points == 64) {
                throw new Fault(at);
            }
            at++;
            points(1, 1);
            int first = points - 1;
            while (true) {
                blanks();
                if (peek() == 'z' && points - first >= 3) {
                    at++;
                    break;
                } else if (peek() == 'l' && points < 64) {
                    at++;
                    points(1, 1);
                } else if (peek() == 'q' && points + 8 <= 64) {
                    at++;
                    points(2, 8);
                } else {
                    throw new Fault(at);
                }
            }
            blanks();
        }
        return points;
    }

    private void points(int pairs, int n) {
        for (int i = 0; i < 2 * pairs; i++) {
            blanks();
            number(0, 256);
        }
        points += n;
    }

    private int data() {
        int lines = 0;
        while (at < text.length()) {
            if (take('\n')) {
                continue;
            }
            if (lines == 40) {
                throw new Fault(at);
            }
            lines++;
            int commas = 0;
            int signs = 0;
            for (; at < text.length() && peek() != '\n'; at++) {
                commas += peek() == ',' ? 1 : 0;
                signs = peek() == ',' ? 0 : signs + 1;
                if (commas == 4 || signs == 9) {
                    throw new Fault(at);
                }
            }
        }
        return lines;
    }

    private int tongue() {
        List<String> words = new ArrayList<>();
        while (at < text.length()) {
            if (take('\n')) {
                continue;
            }
            if (words.size() == 20) {
                throw new Fault(at);
            }
            int from = at;
            String word = word();
            if (words.contains(word)) {
                throw new Fault(from);
            }
            words.add(word);
            need('=');
            for (int n = 0; at < text.length() && peek() != '\n'; n++) {
                if (n == 40 || peek() == '"') {
                    throw new Fault(at);
                }
                at++;
            }
        }
        return words.size();
    }

    /** What one of the readings answers: 0 a form, 1 rules, 2 a shape, 3 data, 4 a tongue. */
    private int read(int what) {
        try {
            switch (what) {
                case 0: return form();
                case 1: return rules();
                case 2: return shape();
                case 3: return data();
                default: return tongue();
            }
        } catch (Fault f) {
            return -1 - f.place;
        }
    }

    private static int answer(ScreenKit kit, int what) {
        switch (what) {
            case 0: return kit.form();
            case 1: return kit.style();
            case 2: return kit.shape(3);
            case 3: return kit.data();
            default: return kit.tongue();
        }
    }

    private static String told(RandomRunsTest random, int what) {
        random.widgets = random.once(3) ? 0 : 20;
        random.names = 0;
        switch (what) {
            case 0: return random.widget(0);
            case 1: return random.rules() + random.rules();
            case 2: return random.points() + random.points();
            case 3: return random.lines() + "\n" + random.lines();
            default: return random.told();
        }
    }

    /** A text with some signs more, less, other ones, or a part of it twice. */
    static String spoiled(RandomRunsTest random, String text) {
        String signs = " \n\"#.,(){}=:;>*@019azqmlAZ_/+-~";
        StringBuilder b = new StringBuilder(text);
        for (int n = random.up(3); n >= 0 && b.length() > 0; n--) {
            int i = random.up(b.length());
            int k = Math.min(b.length(), i + 1 + random.up(12));
            switch (random.up(6)) {
                case 0: b.deleteCharAt(i); break;
                case 1: b.insert(i, signs.charAt(random.up(signs.length()))); break;
                case 2: b.setCharAt(i, signs.charAt(random.up(signs.length()))); break;
                case 3: b.insert(i, b.substring(i, k)); break;
                case 4: b.insert(i, random.once(2) ? " " : "\n"); break;
                default: b.delete(random.once(9) ? i : k, random.once(9) ? b.length() : k); break;
            }
        }
        return b.substring(0, Math.min(3000, b.length()));
    }

    public static void main(String[] args) {
        int runs = args.length > 0 ? Integer.parseInt(args[0]) : 4000;
        long first = args.length > 1 ? Long.parseLong(args[1]) : 1;
        int good = 0;
        for (long seed = first; seed < first + runs && Check.wrong == 0; seed++) {
            RandomRunsTest random = new RandomRunsTest(seed);
            ScreenKit kit = new ScreenKit(40, 40);
            for (int n = 0; n < 20; n++) {
                int what = n % 5;
                String text = told(random, what);
                text = random.once(5) ? text : spoiled(random, text);
                int due = new ReadRunsTest(text).read(what);
                good += due >= 0 ? 1 : 0;
                Check.same("reading " + what + " of " + text, answer(Check.tell(kit, text), what), due);
                Check.same("the tape", kit.count(0), 0);
            }
        }
        Check.same("some are good", good > runs ? 1 : 0, 1);
        Check.end("ReadRunsTest");
    }
}
