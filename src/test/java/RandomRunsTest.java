import java.util.Random;

/** Random runs of calls: nothing is thrown but what is told, and what is painted in parts is as if all were painted. */
public final class RandomRunsTest {
    private static final String[] KINDS = {"row", "col", "grid", "stack", "flow", "scroll", "label", "button", "check",
        "radio", "field", "slider", "list", "gap", "tabs", "dialog", "tree", "table", "picture"};
    private static final String[] WORDS = {"a", "b", "c", "dd", "e1", "f", "g", "h", "i", "j", "k", "l", "m"};
    private static final String[] STATES = {"hover", "press", "focus", "check", "off"};
    private static final String[] PROPERTIES = {"ink", "paper", "edge", "line", "pad", "gap", "wide", "tall", "grow",
        "align", "hide", "dir", "shape"};
    private static final int[] MOST = {0, 0, 0, 3, 9, 9, 96, 64, 9, 3, 1, 1, 8};
    private final Random random;
    int widgets;
    int names;

    RandomRunsTest(long seed) {
        random = new Random(seed);
    }

    int up(int n) {
        return random.nextInt(n);
    }

    boolean once(int n) {
        return up(n) == 0;
    }

    String text(int most) {
        StringBuilder b = new StringBuilder();
        int n = up(most + 1);
        String signs = "abcxyzABCXYZ0129 .,-()@  ";
        for (int i = 0; i < n; i++) {
            b.append(signs.charAt(up(signs.length())));
        }
        return once(4) ? "@" + WORDS[up(5)] : b.toString();
    }

    private static boolean isBox(int kind) {
        return kind <= 5 || kind == 14 || kind == 15;
    }

    String widget(int depth) {
        int kind = depth == 0 && !once(6) ? new int[] {0, 1, 1, 1, 2, 3, 4, 5, 14}[up(9)] : up(19);
        StringBuilder b = new StringBuilder(KINDS[kind]);
        widgets++;
        if (once(5)) {
            b.append("#n").append(names++);
        }
        for (int i = 0; i < 3 && once(3); i++) {
            b.append('.').append(WORDS[up(4)]);
        }
        StringBuilder a = new StringBuilder();
        if (once(2) || (kind == 15 && !once(6))) {
            a.append(",bind=").append(up(4));
        }
        if (once(8)) {
            a.append(",off=1");
        }
        if (once(6)) {
            a.append(",least=").append(up(20));
        }
        if (once(6)) {
            a.append(",most=").append(up(40));
        }
        switch (kind) {
            case 2: if (once(2)) a.append(",cols=").append(1 + up(4)); break;
            case 6: if (once(2)) a.append(",wrap=1"); break;
            case 7: if (!once(3)) a.append(",do=").append(up(4)).append("+-=".charAt(up(3))).append(up(4)); break;
            case 9: if (!once(3)) a.append(",pick=").append(up(4)); break;
            case 10: if (once(2)) a.append(",wide=").append(1 + up(8)); break;
            case 12: if (!once(4)) a.append(",rows=").append(up(once(6) ? 1000000 : 12)); break;
            case 18: if (once(2)) a.append(",img=").append(1 + up(4)); break;
            default: break;
        }
        if (a.length() > 0) {
            b.append('(').append(a.substring(1)).append(')');
        }
        if (!once(3)) {
            b.append('"').append(kind == 16 ? "ab(c(d)e)f(gh)" : text(once(5) ? 40 : 10)).append('"');
        }
        if (isBox(kind) && depth < 6 && !once(8)) {
            b.append('{');
            int n = kind == 5 ? 1 : 1 + up(4);
            for (int i = 0; i < n && widgets < 30; i++) {
                b.append(i > 0 ? " " : "").append(widget(depth + 1));
            }
            b.append('}');
        }
        return b.toString();
    }

    String rules() {
        StringBuilder b = new StringBuilder();
        int n = 1 + up(9);
        for (int r = 0; r < n; r++) {
            int compounds = 1 + up(3);
            for (int c = 0; c < compounds; c++) {
                if (c > 0) {
                    b.append(once(2) ? ">" : " ");
                }
                String mark = "";
                if (once(2)) {
                    mark += "." + WORDS[up(4)];
                }
                if (once(2)) {
                    mark += ":" + STATES[up(5)];
                }
                if (once(4)) {
                    mark += "#n" + up(6);
                }
                b.append(mark.isEmpty() || once(2) ? once(2) ? KINDS[up(19)] : "*" : "").append(mark);
            }
            b.append('{');
            int d = 1 + up(5);
            for (int k = 0; k < d; k++) {
                int p = up(13);
                if (p == 10 && !once(4)) {
                    p = 4;
                }
                b.append(PROPERTIES[p]).append(':');
                if (p < 3) {
                    String[] colours = {"ff000000", "80ff0000", "ff00ff00", "400000ff", "ffffffff", "00000000"};
                    b.append(colours[up(colours.length)]);
                } else {
                    b.append(up(Math.min(p == 6 || p == 7 ? 25 : 4, MOST[p] + 1)));
                }
                b.append(';');
            }
            b.append('}');
        }
        return b.toString();
    }

    String points() {
        StringBuilder b = new StringBuilder();
        int rings = 1 + up(2);
        for (int r = 0; r < rings; r++) {
            b.append('m').append(up(257)).append(' ').append(up(257));
            int n = 2 + up(4);
            for (int i = 0; i < n; i++) {
                if (once(4)) {
                    b.append('q').append(up(257)).append(' ').append(up(257)).append(' ');
                } else {
                    b.append('l');
                }
                b.append(up(257)).append(' ').append(up(257));
            }
            b.append('z');
        }
        return b.toString();
    }

    String lines() {
        StringBuilder b = new StringBuilder();
        int n = up(9);
        for (int i = 0; i < n; i++) {
            int parts = 1 + up(4);
            for (int p = 0; p < parts; p++) {
                b.append(p > 0 ? "," : "").append(once(2) ? "" + up(200) : WORDS[up(13)] + WORDS[up(13)].toUpperCase());
            }
            b.append('\n');
        }
        return b.toString();
    }

    String told() {
        StringBuilder b = new StringBuilder();
        int n = up(5);
        for (int i = 0; i < n; i++) {
            b.append(WORDS[i]).append('=').append(text(10)).append('\n');
        }
        return b.toString();
    }

    /** One random call, of all objects alike; what they answer. */
    private long call(ScreenKit[] kits, int width, int height) {
        int what = up(44);
        int w = up(10) == 0 ? up(70) - 5 : up(Math.max(1, kits[0].count(1)));
        int a = up(5);
        int b = up(40) - 2;
        int c = up(30) - 2;
        int x = up(width + 4) - 2;
        int y = up(height + 4) - 2;
        int k = once(3) ? 32 + up(96) : 1 + up(15);
        boolean shift = once(2);
        String said = null;
        names = once(2) ? 100 + up(50) : names;
        switch (what) {
            case 0: if (once(6)) { widgets = 0; names = 0; said = widget(0); } break;
            case 1: said = rules(); break;
            case 2: said = points(); break;
            case 3: said = text(40); break;
            case 4: said = lines(); break;
            case 5: said = once(2) ? "a" : "1"; break;
            case 6: said = told(); break;
            case 7: case 8: widgets = 25; said = widget(4); break;
            default: break;
        }
        long bits = random.nextLong();
        long answer = 0;
        for (int i = 0; i < kits.length; i++) {
            ScreenKit kit = kits[i];
            if (said != null) {
                Check.tell(kit, said);
            }
            long got;
            switch (what) {
                case 0: got = said == null ? 0 : kit.form(); break;
                case 1: got = kit.style(); break;
                case 2: got = kit.shape(1 + a); break;
                case 3: got = kit.text(w); break;
                case 4: got = kit.data(); break;
                case 5: got = kit.filter(w); break;
                case 6: got = kit.tongue(); break;
                case 7: case 8: got = kit.insert(w, a); break;
                case 9: got = kit.remove(w == 0 ? 1 : w); break;
                case 10: got = bits % 5 == 0 ? kit.glyph(90 + a, b % 8, bits) : 0; break;
                case 11: case 12: got = kit.put(a, c % 8); break;
                case 13: got = kit.able(w, shift); break;
                case 14: case 15: case 16: case 17: case 18: got = kit.point(x, y); break;
                case 19: case 20: case 21: case 22: case 23: got = kit.down(); break;
                case 24: case 25: case 26: case 27: got = kit.up(); break;
                case 28: case 29: got = kit.wheel(c); break;
                case 30: case 31: case 32: case 33: case 34: got = kit.key(k, shift); break;
                case 35: got = kit.focus(w); break;
                case 36: got = kit.move(w, 3 + a, b, 1 + c); break;
                case 37: got = kit.tick(c); break;
                case 38: got = kit.image(a, b, c); break;
                case 39: got = kit.dot(a, b, c, (int) bits); break;
                case 40: got = kit.blend(a, b % 5, c); break;
                case 41: got = kit.scale(a, b, c); break;
                default: got = kit.key(13, shift); break;
            }
            if (i == 0) {
                answer = got;
            }
            Check.same("call " + what + " of object " + i, got, answer);
        }
        return answer;
    }

    private void run(int calls) {
        int width = 16 + up(81);
        int height = 16 + up(49);
        ScreenKit kit = new ScreenKit(width, height);
        ScreenKit twin = new ScreenKit(width, height);
        ScreenKit[] both = {kit, twin};
        for (int i = 0; i < 2; i++) {
            widgets = 0;
            names = 0;
            long seed = random.nextLong();
            Random kept = new Random(seed);
            String form = widget(0);
            String style = rules();
            String shape = points();
            String lines = lines();
            for (int k = 0; k < 2; k++) {
                Check.same("form " + form, Check.tell(both[k], form).form() > 0 ? 1 : 0, 1);
                Check.tell(both[k], style).style();
                Check.tell(both[k], shape).shape(1 + (int) (seed & 3));
                Check.tell(both[k], lines).data();
            }
            if (kept.nextInt(3) > 0) {
                break;
            }
        }
        for (int n = 0; n < calls; n++) {
            call(both, width, height);
            if (once(3)) {
                kit.paint();
                int c = '!';
                long bits = 0;
                for (int i = 0; i < 2 + c % 3; i++) {
                    for (int j = 0; j < 5; j++) {
                        if ((0x1a95 >> (c * 7 + 5 * i + 11 * j) % 13 & 1) == 1) {
                            bits |= 1L << 8 * j + i;
                        }
                    }
                }
                twin.glyph(c, 2 + c % 3, bits);
                Check.same("all painted", twin.paint(), width * height);
                comparePixels(kit, twin, width, height);
            }
            if (once(10)) {
                compareWritten(kit);
            }
            if (Check.wrong > 0) {
                return;
            }
        }
        for (int w = 0; w < kit.count(1); w++) {
            for (int what = 0; what < 17; what++) {
                Check.same("widget " + w + ", " + what, kit.widget(w, what), twin.widget(w, what));
            }
        }
    }

    private static void comparePixels(ScreenKit kit, ScreenKit twin, int width, int height) {
        for (int y = 0; y < height; y++) {
            for (int x = 0; x < width; x++) {
                if (kit.pixel(x, y) != twin.pixel(x, y)) {
                    Check.same("pixel " + x + ", " + y, kit.pixel(x, y), twin.pixel(x, y));
                    return;
                }
            }
        }
    }

    private static void compareWritten(ScreenKit kit) {
        String written = Check.written(kit);
        ScreenKit other = new ScreenKit(50, 50);
        if (written.length() <= 3000 && !written.isEmpty()) {
            Check.same("read what was written: " + written, Check.form(other, written), kit.count(1));
            Check.same("written again", Check.written(other), written);
        }
    }

    public static void main(String[] args) {
        int runs = args.length > 0 ? Integer.parseInt(args[0]) : 300;
        long first = args.length > 1 ? Long.parseLong(args[1]) : 1;
        for (long seed = first; seed < first + runs && Check.wrong == 0; seed++) {
            try {
                new RandomRunsTest(seed).run(200);
            } catch (RuntimeException e) {
                e.printStackTrace(System.out);
                Check.wrong++;
            }
            if (Check.wrong > 0) {
                System.out.println("in the run of seed " + seed);
            }
        }
        Check.end("RandomRunsTest");
    }
}
