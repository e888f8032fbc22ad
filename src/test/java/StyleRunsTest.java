import java.util.ArrayList;
import java.util.List;
import java.util.Map;

/** Promises 8 and 9: values of random forms by random rules, found anew by the document's point 2. */
public final class StyleRunsTest {
    private static final String[] KINDS = {"row", "col", "grid", "stack", "flow", "scroll", "label", "button", "check",
        "radio", "field", "slider", "list", "gap", "tabs", "dialog", "tree", "table", "picture"};
    private static final List<String> STATES = List.of("hover", "press", "focus", "check", "off");
    private static final List<String> PROPERTIES = List.of("ink", "paper", "edge", "line", "pad", "gap", "wide", "tall", "grow",
        "align", "hide", "dir", "shape");
    private static final int[] FIRST = {0xff000000, 0, 0, 0, 0, 0, 0, 0, 0, 3, 0, 0, 0};

    private final ScreenKit kit;
    private final List<Map<String, Integer>> marks;
    private final String rules;

    private StyleRunsTest(ScreenKit kit, String rules) {
        this.kit = kit;
        this.rules = rules;
        marks = Check.attributes(kit);
    }

    private static List<String> split(String compound) {
        List<String> parts = new ArrayList<>();
        StringBuilder b = new StringBuilder();
        for (char c : compound.toCharArray()) {
            if ("#.:".indexOf(c) >= 0 && b.length() > 0) {
                parts.add(b.toString());
                b.setLength(0);
            }
            b.append(c);
        }
        parts.add(b.toString());
        return parts;
    }

    private boolean fits(String compound, int w) {
        for (String part : split(compound)) {
            char c = part.charAt(0);
            if (c == ':') {
                if ((kit.widget(w, 11) >> STATES.indexOf(part.substring(1)) & 1) == 0) {
                    return false;
                }
            } else if (c == '#' || c == '.') {
                if (!marks.get(w).containsKey(part)) {
                    return false;
                }
            } else if (c != '*' && !KINDS[kit.widget(w, 0)].equals(part)) {
                return false;
            }
        }
        return true;
    }

    /** Whether a selector, told as compounds and what stands between them, fits up to one of them. */
    private boolean fits(List<String> selector, int last, int w) {
        if (!fits(selector.get(last), w)) {
            return false;
        }
        if (last == 0) {
            return true;
        }
        int up = kit.widget(w, 1);
        if (selector.get(last - 1).equals(">")) {
            return up >= 0 && fits(selector, last - 2, up);
        }
        for (; up >= 0; up = kit.widget(up, 1)) {
            if (fits(selector, last - 2, up)) {
                return true;
            }
        }
        return false;
    }

    private static int weight(List<String> selector) {
        int weight = 0;
        for (int i = 0; i < selector.size(); i += 2) {
            for (String part : split(selector.get(i))) {
                char c = part.charAt(0);
                weight += c == '#' ? 100 : c == '.' || c == ':' ? 10 : c == '*' ? 0 : 1;
            }
        }
        return weight;
    }

    private static List<String> parse(String selector) {
        List<String> parts = new ArrayList<>();
        StringBuilder b = new StringBuilder();
        for (char c : selector.toCharArray()) {
            if (c == '>' || c == ' ') {
                parts.add(b.toString());
                parts.add("" + c);
                b.setLength(0);
            } else {
                b.append(c);
            }
        }
        parts.add(b.toString());
        return parts;
    }

    private void compare() {
        for (int w = 0; w < kit.count(1); w++) {
            int[] weights = new int[13];
            int[] values = FIRST.clone();
            int[] by = new int[13];
            java.util.Arrays.fill(by, -1);
            int up = kit.widget(w, 1);
            values[0] = up < 0 ? values[0] : kit.styled(up, 0);
            values[11] = up < 0 ? 0 : kit.styled(up, 11);
            int number = 0;
            for (String rule : rules.split("}")) {
                int weight = -1;
                for (String selector : rule.substring(0, rule.indexOf('{')).split(",")) {
                    List<String> parts = parse(selector);
                    if (fits(parts, parts.size() - 1, w)) {
                        weight = Math.max(weight, weight(parts));
                    }
                }
                for (String declaration : rule.substring(rule.indexOf('{') + 1).split(";")) {
                    int p = PROPERTIES.indexOf(declaration.substring(0, declaration.indexOf(':')));
                    if (weight >= weights[p]) {
                        String value = declaration.substring(declaration.indexOf(':') + 1);
                        values[p] = p < 3 ? (int) Long.parseLong(value, 16) : Integer.parseInt(value);
                        weights[p] = weight;
                        by[p] = number;
                    }
                    number++;
                }
            }
            for (int p = 0; p < 13; p++) {
                Check.same(PROPERTIES.get(p) + " of " + w, kit.styled(w, p), values[p]);
                Check.same("rule of " + PROPERTIES.get(p) + " of " + w, kit.ruleOf(w, p), by[p]);
            }
        }
    }

    private static void run(long seed) {
        RandomRunsTest random = new RandomRunsTest(seed);
        ScreenKit kit = new ScreenKit(60, 60);
        Check.form(kit, random.widget(0));
        for (int n = 0; n < 12 && Check.wrong == 0; n++) {
            String rules = random.rules();
            int at = rules.indexOf('{');
            rules = rules.substring(0, at) + "," + random.rules().split("\\{")[0] + rules.substring(at);
            Check.same("read", Check.style(kit, rules) > 0 ? 1 : 0, 1);
            kit.put(random.up(4), random.up(5) - 1);
            kit.point(random.up(60), random.up(60));
            kit.down();
            kit.key(13, random.once(2));
            kit.able(random.up(kit.count(1)), random.once(2));
            new StyleRunsTest(kit, rules).compare();
            if (Check.wrong > 0) {
                System.out.println(rules + "\n" + Check.written(kit));
            }
            if (random.once(2)) {
                kit.up();
            }
        }
    }

    public static void main(String[] args) {
        int runs = args.length > 0 ? Integer.parseInt(args[0]) : 200;
        long first = args.length > 1 ? Long.parseLong(args[1]) : 1;
        for (long seed = first; seed < first + runs && Check.wrong == 0; seed++) {
            run(seed);
            if (Check.wrong > 0) {
                System.out.println("in the run of seed " + seed);
            }
        }
        Check.end("StyleRunsTest");
    }
}
