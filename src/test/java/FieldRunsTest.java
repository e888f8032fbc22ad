import java.util.ArrayList;
import java.util.List;
import java.util.Random;

/** Promises 11, 21, 28: random keys and presses of a field, beside a plain field of the document's point 7. */
public final class FieldRunsTest {
    private record Step(String text, int caret, int anchor) {
    }

    private static final int[] KEYS = {1, 2, 3, 4, 5, 6, 7, 8, 127, 11, 12, 11, 12, 34, 9, 10, 14, 15};

    private final Random random;
    private final ScreenKit kit = new ScreenKit(96, 20);
    private String text = "";
    private int caret;
    private int anchor;
    private int view;
    private String clip = "";
    private boolean typing;
    private boolean pressed;
    private boolean focused;
    private int pointer;
    private int wide;
    private final List<Step> done = new ArrayList<>();
    private final List<Step> undone = new ArrayList<>();

    private FieldRunsTest(long seed) {
        random = new Random(seed);
        wide = random.nextInt(60);
        StringBuilder b = new StringBuilder();
        int n = random.nextInt(41);
        for (int i = 0; i < n; i++) {
            b.append((char) ('a' + random.nextInt(26)));
        }
        text = b.toString();
        caret = n;
        anchor = n;
        style();
        Check.form(kit, "tabs{row{field(wide=1)\"" + text + "\" button}}");
        look();
    }

    private void style() {
        Check.style(kit, "field{wide:" + Math.max(6, wide) + ";}button{wide:9;}");
        wide = Math.max(6, wide);
    }

    private int widths(int from, int to) {
        int sum = 0;
        for (int i = from; i < to; i++) {
            sum += 3 + text.charAt(i) % 3;
        }
        return sum;
    }

    private boolean fits(int v) {
        return v >= 0 && v <= caret && widths(v, caret) <= wide - 1;
    }

    private void look() {
        for (int v = view; v >= 0; v--) {
            if (fits(v)) {
                view = v;
                return;
            }
        }
        for (int v = view + 1; v <= caret; v++) {
            if (fits(v)) {
                view = v;
                return;
            }
        }
    }

    private int from() {
        return Math.min(caret, anchor);
    }

    private int to() {
        return Math.max(caret, anchor);
    }

    private void change(int from, int to, String signs, boolean joined) {
        if (from == to && signs.isEmpty()) {
            return;
        }
        if (!joined) {
            done.add(new Step(text, caret, anchor));
            if (done.size() > 16) {
                done.remove(0);
            }
        }
        undone.clear();
        text = text.substring(0, from) + signs + text.substring(to);
        caret = from + signs.length();
        anchor = caret;
    }

    private void back(List<Step> from, List<Step> to) {
        if (!from.isEmpty()) {
            to.add(new Step(text, caret, anchor));
            Step s = from.remove(from.size() - 1);
            text = s.text();
            caret = s.caret();
            anchor = s.anchor();
        }
    }

    private void key(int k, boolean shift) {
        boolean typed = k >= 32 && k <= 126 && k != '"';
        if (!typed) {
            typing = false;
        }
        if (!focused) {
            return;
        }
        int room = 40 - text.length() + to() - from();
        if (typed && room > 0) {
            change(from(), to(), "" + (char) k, typing);
            typing = true;
        }
        switch (k) {
            case 1: case 2:
                boolean selected = caret != anchor && !shift;
                int next = Math.max(0, Math.min(text.length(), k == 1 ? caret - 1 : caret + 1));
                caret = selected ? k == 1 ? from() : to() : next;
                break;
            case 3: caret = 0; break;
            case 4: caret = text.length(); break;
            case 5: case 6:
                clip = caret == anchor ? clip : text.substring(from(), to());
                if (k == 6) {
                    change(from(), to(), "", false);
                }
                break;
            case 7: change(from(), to(), clip.substring(0, Math.min(room, clip.length())), false); break;
            case 8: change(caret == anchor ? Math.max(0, caret - 1) : from(), to(), "", false); break;
            case 127: change(from(), caret == anchor ? Math.min(text.length(), caret + 1) : to(), "", false); break;
            case 11: back(done, undone); break;
            case 12: back(undone, done); break;
            default: break;
        }
        if (k <= 4 && !shift) {
            anchor = caret;
        }
    }

    private int at(int x) {
        int place = 0;
        for (int i = view; i < text.length(); i++) {
            int w = 3 + text.charAt(i) % 3;
            if (place + w / 2 >= x) {
                return i;
            }
            place += w;
        }
        return text.length();
    }

    private void call() {
        int x = random.nextInt(100) - 2;
        switch (random.nextInt(14)) {
            case 0:
                kit.point(x, 12);
                pointer = x;
                if (pressed) {
                    typing = false;
                    caret = at(x);
                }
                break;
            case 1:
                boolean over = kit.count(7) == 2;
                if (kit.down() != -5) {
                    typing = false;
                    pressed = over;
                    focused = over;
                    caret = over ? at(pointer) : caret;
                    anchor = over ? caret : anchor;
                }
                break;
            case 2:
                if (kit.up() != -5) {
                    pressed = false;
                }
                break;
            case 3:
                boolean away = random.nextInt(4) == 0;
                typing &= focused && !away;
                focused = !away;
                kit.focus(away ? 3 : 2);
                break;
            case 4:
                wide = 6 + random.nextInt(60);
                style();
                break;
            case 5: case 6: case 7: case 8:
                int some = KEYS[random.nextInt(KEYS.length)];
                boolean shift = random.nextBoolean();
                key(some, shift);
                kit.key(some, shift);
                break;
            default:
                int sign = 32 + random.nextInt(95);
                key(sign, false);
                kit.key(sign, false);
                break;
        }
        look();
    }

    private void compare() {
        Check.same("text", Check.letters(kit, 2), text);
        Check.same("caret, anchor, view, steps", kit.field(2, 0) + " " + kit.field(2, 1) + " " + kit.field(2, 2) + " "
            + kit.field(2, 3) + " " + kit.field(2, 4), caret + " " + anchor + " " + view + " " + done.size() + " " + undone.size());
        Check.same("clip", Check.clip(kit), clip);
        Check.same("focus", kit.count(5) == 2 ? 1 : 0, focused ? 1 : 0);
    }

    public static void main(String[] args) {
        int runs = args.length > 0 ? Integer.parseInt(args[0]) : 400;
        for (long seed = 1; seed <= runs && Check.wrong == 0; seed++) {
            FieldRunsTest run = new FieldRunsTest(seed);
            run.compare();
            for (int n = 0; n < 200 && Check.wrong == 0; n++) {
                run.call();
                run.compare();
            }
            if (Check.wrong > 0) {
                System.out.println("in the run of seed " + seed);
            }
        }
        Check.end("FieldRunsTest");
    }
}
