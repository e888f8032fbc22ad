import java.util.ArrayList;
import java.util.List;

/** All promises: random runs of all calls beside the second, plain kit; each answer, all that can be asked, all pixels. */
public final class WholeRunsTest {
    private static final int[] KEYS = {1, 2, 3, 4, 5, 6, 7, 8, 9, 10, 11, 12, 13, 14, 15, 127, 'a', 'b', 'Z', '1', ' ', '"'};

    private final RandomRunsTest random;
    private final ScreenKit kit;
    private final PlainKit plain;
    private final List<String> calls = new ArrayList<>();

    private WholeRunsTest(long seed) {
        random = new RandomRunsTest(seed);
        int width = 10 + up(100);
        int height = 10 + up(70);
        kit = new ScreenKit(width, height);
        plain = new PlainKit(width, height);
        calls.add("ScreenKit " + width + " " + height);
    }

    private int up(int n) {
        return random.up(n);
    }

    private boolean once(int n) {
        return random.once(n);
    }

    private void same(String call, long got, long due) {
        calls.add(call);
        Check.same(call, got, due);
    }

    // ---- what is told ----

    private void tell(String text) {
        String told = once(5) ? ReadRunsTest.spoiled(random, text) : text;
        calls.add("tell " + told);
        Check.tell(kit, told);
        plain.tell(told);
        Check.same("the tape", kit.count(0), plain.count(0));
    }

    private void form() {
        random.widgets = up(20);
        random.names = 0;
        tell(random.widget(0));
        same("form", kit.form(), plain.form());
    }

    /** A form, which is a good one but for a few runs. */
    private void firstForm() {
        for (int n = up(9); n < 9 && plain.all.isEmpty(); n++) {
            form();
        }
    }

    private void rules() {
        tell(random.rules());
        same("style", kit.style(), plain.style());
    }

    private void tellMore() {
        int n = once(9) ? up(12) - 1 : 1 + up(3);
        switch (up(5)) {
            case 0: rules(); break;
            case 1:
                tell(random.points());
                same("shape " + n, kit.shape(n), plain.shape(n));
                break;
            case 2:
                tell(random.lines());
                same("data", kit.data(), plain.data());
                break;
            case 3:
                tell(random.told());
                same("tongue", kit.tongue(), plain.tongue());
                break;
            default:
                int c = 30 + up(99);
                int columns = up(9);
                long bits = (long) up(1 << 30) << 10 ^ up(1 << 30);
                same("glyph " + c + " " + columns, kit.glyph(c, columns, bits), plain.glyph(c, columns, bits));
                break;
        }
    }

    private int widget() {
        return once(20) ? up(70) - 4 : up(Math.max(1, plain.all.size()));
    }

    private void design() {
        int w = widget();
        int at = up(4);
        switch (up(6)) {
            case 0: case 1: case 2:
                random.widgets = 25 + up(6);
                random.names = 100 + up(90);
                tell(random.widget(once(2) ? 4 : 5));
                same("insert " + w + " " + at, kit.insert(w, at), plain.insert(w, at));
                break;
            case 3:
                same("remove " + w, kit.remove(w), plain.remove(w));
                break;
            case 4:
                tell(random.text(40));
                same("text " + w, kit.text(w), plain.text(w));
                break;
            default:
                tell(once(3) ? "" : once(2) ? "1" : "a");
                w = once(2) ? w : any("table", w);
                same("filter " + w, kit.filter(w), plain.filter(w));
                break;
        }
    }

    /** One of this kind, if there is one. */
    private int any(String kind, int w) {
        List<PlainWidget> those = plain.all.stream().filter(other -> other.is(kind)).toList();
        return those.isEmpty() ? w : plain.number(those.get(up(those.size())));
    }

    // ---- pointer, keys, cells ----

    private void point() {
        List<PlainWidget> seen = plain.all.stream().filter(w -> w.seen[0] < w.seen[2] && w.canBePressed()).toList();
        int x = up(plain.width + 4) - 2;
        int y = up(plain.height + 4) - 2;
        if (!seen.isEmpty() && !once(4)) {
            int[] s = seen.get(up(seen.size())).seen;
            x = s[0] + up(s[2] - s[0]);
            y = s[1] + up(s[3] - s[1]);
        }
        same("point " + x + " " + y, kit.point(x, y), plain.hands.point(x, y));
    }

    private void hand() {
        switch (up(7)) {
            case 0: case 1: point(); break;
            case 2:
                point();
                same("down", kit.down(), plain.hands.down());
                break;
            case 3: same("down", kit.down(), plain.hands.down()); break;
            case 4: case 5: same("up", kit.up(), plain.hands.up()); break;
            default:
                int n = once(9) ? up(3000) - 1500 : up(7) - 3;
                same("wheel " + n, kit.wheel(n), plain.hands.wheel(n));
                break;
        }
    }

    private void keys() {
        if (plain.focus == null || once(12)) {
            int w = widget();
            same("focus " + w, kit.focus(w), plain.hands.focus(w));
        }
        for (int i = up(4); i >= 0; i--) {
            int k = once(20) ? up(140) - 5 : KEYS[up(KEYS.length)];
            boolean shift = once(3);
            same("key " + k + " " + shift, kit.key(k, shift), plain.hands.key(k, shift));
        }
    }

    private void change() {
        int w = widget();
        int a = up(4);
        int b = once(9) ? up(2000) - 1000 : up(9) - 1;
        switch (up(4)) {
            case 0: case 1: same("put " + a + " " + b, kit.put(a, b), plain.put(a, b)); break;
            case 2:
                boolean off = once(2);
                same("able " + w + " " + off, kit.able(w, off), plain.able(w, off));
                break;
            default:
                int p = once(9) ? up(15) - 1 : 3 + up(6);
                int n = once(9) ? up(1200) - 100 : 1 + up(6);
                same("move " + w + " " + p + " " + b + " " + n, kit.move(w, p, b, n), plain.move(w, p, b, n));
                break;
        }
    }

    private void image() {
        int n = once(20) ? up(7) - 1 : 1 + up(4);
        int a = once(9) ? up(36) : 1 + up(9);
        int b = once(9) ? up(36) : 1 + up(9);
        int c = up(14) - 1;
        switch (up(5)) {
            case 0: same("image " + n + " " + a + " " + b, kit.image(n, a, b), plain.image(n, a, b)); break;
            case 1: case 2:
                int lanes = up(1 << 30) * 4 + up(4);
                same("dot " + n + " " + a / 2 + " " + b / 2 + " " + lanes, kit.dot(n, a / 2, b / 2, lanes), plain.dot(n, a / 2, b / 2, lanes));
                break;
            case 3:
                int m = 1 + up(4);
                same("blend " + n + " " + m + " " + c, kit.blend(n, m, c), plain.blend(n, m, c));
                break;
            default: same("scale " + n + " " + a + " " + b, kit.scale(n, a, b), plain.scale(n, a, b)); break;
        }
    }

    private void step() {
        switch (up(16)) {
            case 0: if (once(6)) form(); break;
            case 1: tellMore(); break;
            case 2: design(); break;
            case 3: case 4: change(); break;
            case 5: image(); break;
            case 6:
                int n = once(9) ? up(1200) - 100 : 1 + up(3);
                same("tick " + n, kit.tick(n), plain.tick(n));
                break;
            case 7: case 8: case 9: keys(); break;
            default: hand(); break;
        }
    }

    // ---- what is asked ----

    private void ask() {
        for (int what = 1; what <= 13; what++) {
            Check.same("count " + what, kit.count(what), plain.count(what));
        }
        for (int c = 0; c < 16; c++) {
            Check.same("cell " + c, kit.cell(c), plain.cells[c]);
        }
        for (int w = 0; w < plain.all.size() && Check.wrong == 0; w++) {
            askOf(w);
        }
        Check.same("clip", Check.clip(kit), plain.clip);
    }

    private void askOf(int w) {
        PlainWidget due = plain.at(w);
        for (int what = 0; what < 16; what++) {
            Check.same("widget " + w + ", " + what, kit.widget(w, what), plain.widget(w, what));
        }
        for (int p = 0; p < 13; p++) {
            Check.same("styled " + w + ", " + p, kit.styled(w, p), due.style[p]);
            Check.same("rule of " + w + ", " + p, kit.ruleOf(w, p), due.rule[p]);
        }
        for (int what = 0; what < 5; what++) {
            Check.same("field " + w + ", " + what, kit.field(w, what), plain.field(w, what));
        }
        Check.same("letters " + w, Check.letters(kit, w), due.text);
        Check.same("spoken " + w, Check.spoken(kit, w), plain.spoken(w));
        List<String> rows = new ArrayList<>(plain.ordered(w));
        rows.add("");
        for (int i = 0; i < rows.size(); i++) {
            Check.same("ordered " + w + ", " + i, Check.ordered(kit, w, i), rows.get(i));
        }
        String shown = String.join(" ", plain.rows(due).stream().map(row -> "" + row).toList());
        Check.same("shown " + w, Check.shown(kit, w), shown);
    }

    private void paint() {
        same("paint", kit.paint(), plain.screen.paint());
        for (int y = 0; y < plain.height && Check.wrong == 0; y++) {
            for (int x = 0; x < plain.width; x++) {
                Check.same("pixel " + x + " " + y, kit.pixel(x, y), plain.screen.pixels[y][x]);
            }
        }
        Check.same("written", Check.written(kit), plain.written());
    }

    private void run(int steps) {
        firstForm();
        rules();
        if (once(2)) {
            tell(random.lines());
            same("data", kit.data(), plain.data());
        }
        for (int n = 0; n < steps && Check.wrong == 0; n++) {
            step();
            ask();
            if (once(3)) {
                paint();
            }
        }
    }

    public static void main(String[] args) {
        int runs = args.length > 0 ? Integer.parseInt(args[0]) : 150;
        long first = args.length > 1 ? Long.parseLong(args[1]) : 1;
        for (long seed = first; seed < first + runs && Check.wrong == 0; seed++) {
            WholeRunsTest test = new WholeRunsTest(seed);
            test.run(60);
            if (Check.wrong > 0) {
                test.calls.forEach(System.out::println);
                System.out.println("in the run of seed " + seed);
            }
        }
        Check.end("WholeRunsTest");
    }
}
