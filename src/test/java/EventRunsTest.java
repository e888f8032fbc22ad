import java.util.ArrayList;
import java.util.HashSet;
import java.util.List;
import java.util.Map;
import java.util.Set;

/**
 * Promises 7, 13 to 15, 17 to 22, 31, 42: random events beside a plain count of the document's points 8, 9, 11 to 13.
 * Rules without states, so that places don't follow from the pointer and the keys.
 */
public final class EventRunsTest {
    /** What one widget has besides what its form tells. */
    private static final class State {
        boolean off;
        int latest = -1;
        int top;
        final Set<Integer> opened = new HashSet<>();
        final List<Character> signs = new ArrayList<>();
        final List<Integer> depths = new ArrayList<>();
        final List<Boolean> kids = new ArrayList<>();
    }

    private final RandomRunsTest random;
    private final int width;
    private final int height;
    private final ScreenKit kit;
    private final List<State> states = new ArrayList<>();
    private final List<Map<String, Integer>> attributes;
    private final int n;
    private final int[] cells = new int[16];
    private final List<Integer> newest = new ArrayList<>();
    private int hover = -1;
    private int pressed = -1;
    private int focus = -1;
    private boolean isDown;
    private int pointerX;
    private int pointerY;

    private EventRunsTest(long seed) {
        random = new RandomRunsTest(seed);
        width = 16 + random.up(81);
        height = 16 + random.up(49);
        kit = new ScreenKit(width, height);
        String form = random.widget(0).replaceAll(",wide=[0-9]+\\)", ")").replaceAll("\\(wide=[0-9]+\\)", "");
        Check.form(kit, form.replace("table", "gap").replace("field", "gap"));
        attributes = Check.attributes(kit);
        n = kit.count(1);
        for (int w = 0; w < n; w++) {
            State s = new State();
            s.off = attribute(w, "off", 0) == 1;
            s.latest = kind(w) == 14 ? 0 : -1;
            if (kind(w) == 16) {
                PlainPainter.nodes(Check.letters(kit, w), 0, 0, s.signs, s.depths, s.kids);
            }
            states.add(s);
        }
        Check.style(kit, random.rules().replaceAll(":(hover|press|focus|check|off)", ".zz"));
        settle();
    }

    private int kind(int w) {
        return kit.widget(w, 0);
    }

    private int attribute(int w, String name, int first) {
        return attributes.get(w).getOrDefault(name, first);
    }

    private static boolean canBePressed(int kind) {
        return (kind >= 7 && kind <= 12) || kind == 14 || kind == 16 || kind == 17;
    }

    private boolean isHidden(int w) {
        return kit.widget(w, 10) == 1;
    }

    private boolean isOff(int w) {
        for (int up = w; up >= 0; up = kit.widget(up, 1)) {
            if (states.get(up).off) {
                return true;
            }
        }
        return false;
    }

    private boolean isIn(int w, int around) {
        for (int up = w; up >= 0; up = kit.widget(up, 1)) {
            if (up == around) {
                return true;
            }
        }
        return false;
    }

    private int home(int w) {
        int up = w;
        while (up >= 0 && kind(up) != 15) {
            up = kit.widget(up, 1);
        }
        return up;
    }

    private int top() {
        return newest.isEmpty() ? -1 : newest.get(newest.size() - 1);
    }

    private boolean isReached(int w) {
        return !isHidden(w) && !isOff(w) && (top() < 0 || home(w) == top());
    }

    // ---- values ----

    private int choices(int w) {
        switch (kind(w)) {
            case 12: return attribute(w, "rows", 0);
            case 14: return kit.widget(w, 2);
            case 16: return states.get(w).signs.size();
            default: return 0;
        }
    }

    private int selected(int w) {
        int bind = attribute(w, "bind", -1);
        int v = bind < 0 ? states.get(w).latest : cells[bind];
        return v >= 0 && v < choices(w) ? v : -1;
    }

    private void select(int w, int row) {
        int bind = attribute(w, "bind", -1);
        if (bind < 0) {
            states.get(w).latest = row;
        } else {
            cells[bind] = row;
        }
    }

    private List<Integer> shown(int w) {
        State s = states.get(w);
        List<Integer> shown = new ArrayList<>();
        int closed = 99;
        for (int i = 0; i < s.signs.size(); i++) {
            if (s.depths.get(i) <= closed) {
                shown.add(i);
                closed = s.kids.get(i) && !s.opened.contains(i) ? s.depths.get(i) : 99;
            }
        }
        return shown;
    }

    private int rowAt(int w, int place) {
        if (kind(w) == 12) {
            return place < attribute(w, "rows", 0) ? place : -1;
        }
        List<Integer> shown = shown(w);
        return place < shown.size() ? shown.get(place) : -1;
    }

    private int rowCount(int w) {
        return kind(w) == 12 ? attribute(w, "rows", 0) : shown(w).size();
    }

    private int placeOf(int w, int row) {
        return kind(w) == 12 ? row : shown(w).indexOf(row);
    }

    private int wholeRows(int w) {
        int[] c = PlainPainter.content(kit, w);
        return Math.max(1, (c[3] - c[1]) / 6);
    }

    private void setSlider(int w, long v) {
        int bind = attribute(w, "bind", -1);
        if (bind >= 0) {
            cells[bind] = (int) Math.max(attribute(w, "least", 0), Math.min(attribute(w, "most", 99), v));
        }
    }

    private void slide(int w, int[] c) {
        int least = attribute(w, "least", 0);
        int room = c[2] - c[0] - 3;
        int d = kit.styled(w, 11) == 1 ? c[2] - 2 - pointerX : pointerX - c[0] - 1;
        long v = room < 1 ? least : least + (long) (attribute(w, "most", 99) - least) * Math.max(0, Math.min(room, d)) / room;
        setSlider(w, v);
    }

    private void click(int w) {
        int bind = attribute(w, "bind", -1);
        if (kind(w) == 7 && attribute(w, "do", -1) >= 0) {
            int c = attribute(w, "do", -1);
            int by = attribute(w, "by", 0);
            int sign = attribute(w, "sign", 0);
            cells[c] = sign == '+' ? cells[c] + by : sign == '-' ? cells[c] - by : by;
        } else if (kind(w) == 8 && bind >= 0) {
            cells[bind] = cells[bind] != 0 ? 0 : 1;
        } else if (kind(w) == 9 && bind >= 0) {
            cells[bind] = attribute(w, "pick", 0);
        }
    }

    // ---- events: what is due is counted ahead of the call, by places as they are then ----

    private void point() {
        pointerX = random.up(width + 4) - 2;
        pointerY = random.up(height + 4) - 2;
        int[][] seen = PlainPainter.visible(kit, width, height)[0];
        hover = -1;
        for (int w = 0; w < n; w++) {
            boolean there = pointerX >= seen[w][0] && pointerX < seen[w][2] && pointerY >= seen[w][1] && pointerY < seen[w][3];
            if (there && !isHidden(w) && home(w) == top()) {
                hover = w;
            }
        }
        if (pressed >= 0 && kind(pressed) == 11) {
            slide(pressed, PlainPainter.content(kit, pressed));
        }
        Check.same("point", kit.point(pointerX, pointerY), hover);
    }

    private void down() {
        if (isDown) {
            Check.same("down again", kit.down(), -5);
            return;
        }
        int w = hover;
        while (w >= 0 && (!canBePressed(kind(w)) || isOff(w))) {
            w = kit.widget(w, 1);
        }
        isDown = true;
        pressed = w;
        focus = w;
        if (w >= 0) {
            press(w, PlainPainter.content(kit, w), PlainPainter.visible(kit, width, height)[0][w]);
        }
        Check.same("down", kit.down(), w);
    }

    private void press(int w, int[] c, int[] seen) {
        boolean in = pointerX >= c[0] && pointerX < c[2] && pointerY >= c[1] && pointerY < c[3];
        State s = states.get(w);
        int line = pointerY - c[1];
        if (kind(w) == 11) {
            slide(w, c);
        } else if (in && (kind(w) == 12 || kind(w) == 16) && rowAt(w, s.top + line / 6) >= 0) {
            int row = rowAt(w, s.top + line / 6);
            int x = kind(w) == 16 ? pointerX - c[0] - 4 * s.depths.get(row) : -1;
            if (x >= 0 && x < 6 && s.kids.get(row)) {
                if (!s.opened.remove(row)) {
                    s.opened.add(row);
                }
            } else {
                select(w, row);
            }
        } else if (in && kind(w) == 14 && line < 8 && pointerX >= seen[0] && pointerX < seen[2] && pointerY >= seen[1]
            && pointerY < seen[3]) {
            int at = 0;
            int page = 0;
            for (int k = w + 1; k < n; k++) {
                if (kit.widget(k, 1) == w) {
                    int part = 4;
                    for (char sign : Check.letters(kit, k).toCharArray()) {
                        part += 3 + sign % 3;
                    }
                    int x = kit.styled(w, 11) == 1 ? c[2] - at - part : c[0] + at;
                    if (pointerX >= x && pointerX < x + part) {
                        select(w, page);
                        return;
                    }
                    at += part;
                    page++;
                }
            }
        }
    }

    private void up() {
        if (!isDown) {
            Check.same("up again", kit.up(), -5);
            return;
        }
        int due = pressed >= 0 && isIn(hover, pressed) ? pressed : -1;
        isDown = false;
        pressed = -1;
        if (due >= 0) {
            click(due);
        }
        Check.same("up", kit.up(), due);
    }

    private void wheel() {
        int by = random.up(7) - 3;
        int w = hover;
        while (w >= 0 && kind(w) != 5 && kind(w) != 12 && kind(w) != 16) {
            w = kit.widget(w, 1);
        }
        if (w >= 0) {
            State s = states.get(w);
            int most = kind(w) == 5 ? scrollRoom(w) : rowCount(w) - wholeRows(w);
            s.top = Math.max(0, Math.min(most, s.top + by * (kind(w) == 5 ? 6 : 1)));
        }
        Check.same("wheel", kit.wheel(by), w);
    }

    private int scrollRoom(int w) {
        boolean kid = kit.widget(w, 2) > 0 && kind(w + 1) != 15;
        int[] c = PlainPainter.content(kit, w);
        return Math.max(0, (kid ? kit.widget(w + 1, 7) : 0) - (c[3] - c[1]));
    }

    private void key() {
        int[] keys = {13, 13, 14, 15, 1, 2, 3, 4, 9, 10, 9, 10, 'x', 8};
        int k = keys[random.up(keys.length)];
        boolean shift = random.once(3);
        int had = focus;
        boolean rows = had >= 0 && (kind(had) == 12 || kind(had) == 16) && (k == 3 || k == 4 || k == 9 || k == 10);
        boolean branch = had >= 0 && kind(had) == 16 && (k == 1 || k == 2);
        if (k == 13) {
            next(shift);
        } else if (k == 15 && top() >= 0) {
            cells[attribute(top(), "bind", -1)] = 0;
        } else if (rows) {
            rowKey(had, k);
        } else if (branch) {
            branchKey(had, k);
        } else if (had >= 0 && k == 14) {
            click(had);
        } else if (had >= 0 && (k == 1 || k == 2)) {
            int way = (k == 2) == (kit.styled(had, 11) == 0) ? 1 : -1;
            if (kind(had) == 11) {
                int bind = attribute(had, "bind", -1);
                setSlider(had, bind < 0 ? 0 : (long) cells[bind] + way);
            } else if (kind(had) == 14) {
                int to = selected(had) < 0 ? 0 : selected(had) + way;
                if (to >= 0 && to < choices(had)) {
                    select(had, to);
                }
            }
        }
        Check.same("key " + k, kit.key(k, shift), had);
        if ((rows || branch) && placeOf(had, selected(had)) >= 0) {
            int place = placeOf(had, selected(had));
            State s = states.get(had);
            s.top = Math.min(place, Math.max(s.top, place - wholeRows(had) + 1));
        }
    }

    private void next(boolean back) {
        List<Integer> ring = new ArrayList<>();
        for (int w = 0; w < n; w++) {
            if (canBePressed(kind(w)) && isReached(w)) {
                ring.add(w);
            }
        }
        int at = ring.indexOf(focus);
        int size = ring.size();
        focus = size == 0 ? -1 : ring.get(at < 0 ? back ? size - 1 : 0 : (at + (back ? size - 1 : 1)) % size);
    }

    private void rowKey(int w, int k) {
        int count = rowCount(w);
        int at = placeOf(w, selected(w));
        if (count > 0) {
            int to = k == 3 ? 0 : k == 4 ? count - 1 : at < 0 ? 0 : k == 9 ? Math.max(0, at - 1) : Math.min(count - 1, at + 1);
            select(w, rowAt(w, to));
        }
    }

    private void branchKey(int w, int k) {
        State s = states.get(w);
        int node = selected(w);
        if (placeOf(w, node) < 0 || node < 0) {
            return;
        }
        if (k == 2 && s.kids.get(node)) {
            s.opened.add(node);
        } else if (k == 1 && !s.opened.remove(node)) {
            int up = node;
            while (up >= 0 && s.depths.get(up) >= s.depths.get(node)) {
                up--;
            }
            if (up >= 0) {
                select(w, up);
            }
        }
    }

    private void call() {
        int w = random.up(n);
        switch (random.up(12)) {
            case 0: case 1: case 2: point(); break;
            case 3: case 4: down(); break;
            case 5: up(); break;
            case 6: wheel(); break;
            case 7: case 8: key(); break;
            case 9:
                int c = random.up(4);
                int v = random.up(7) - 1;
                Check.same("put", kit.put(c, v), cells[c]);
                cells[c] = v;
                break;
            case 10:
                boolean off = random.once(3);
                Check.same("able", kit.able(w, off), states.get(w).off ? 1 : 0);
                states.get(w).off = off;
                break;
            default:
                boolean can = canBePressed(kind(w)) && isReached(w);
                Check.same("focus", kit.focus(w), can ? 1 : -5);
                focus = can ? w : focus;
                break;
        }
    }

    /** What follows of a call: dialogs, losses, what is held; by places as they are then. */
    private void settle() {
        newest.removeIf(this::isHidden);
        for (int w = 0; w < n; w++) {
            if (kind(w) == 15 && !isHidden(w) && !newest.contains(w)) {
                newest.add(w);
            }
        }
        pressed = pressed >= 0 && isReached(pressed) ? pressed : -1;
        focus = focus >= 0 && isReached(focus) ? focus : -1;
        for (int w = 0; w < n; w++) {
            State s = states.get(w);
            if (kind(w) == 5 && !isHidden(w)) {
                s.top = Math.min(s.top, scrollRoom(w));
            } else if (kind(w) == 16) {
                s.top = Math.max(0, Math.min(s.top, rowCount(w) - 1));
            }
        }
    }

    private void compare() {
        Check.same("focus, pressed, hover, top dialog", kit.count(5) + " " + kit.count(6) + " " + kit.count(7) + " " + kit.count(13),
            focus + " " + pressed + " " + hover + " " + top());
        for (int c = 0; c < 16; c++) {
            Check.same("cell " + c, kit.cell(c), cells[c]);
        }
        for (int w = 0; w < n; w++) {
            Check.same("row of " + w, kit.widget(w, 15), selected(w));
            Check.same("top of " + w, kit.widget(w, 14), kind(w) == 14 ? 0 : states.get(w).top);
            int bind = attribute(w, "bind", -1);
            boolean checked = bind >= 0 && (kind(w) == 8 ? cells[bind] != 0 : kind(w) == 9 && cells[bind] == attribute(w, "pick", 0));
            boolean over = hover >= 0 && isIn(hover, w);
            int due = (over ? 1 : 0) + (over && w == pressed ? 2 : 0) + (w == focus ? 4 : 0) + (checked ? 8 : 0) + (isOff(w) ? 16 : 0);
            Check.same("states of " + w, kit.widget(w, 11), due);
            if (kind(w) == 16) {
                Check.same("shown of " + w, Check.shown(kit, w), shown(w).toString().replaceAll("[\\[\\],]", ""));
            }
        }
    }

    public static void main(String[] args) {
        int runs = args.length > 0 ? Integer.parseInt(args[0]) : 300;
        long first = args.length > 1 ? Long.parseLong(args[1]) : 1;
        for (long seed = first; seed < first + runs && Check.wrong == 0; seed++) {
            EventRunsTest run = new EventRunsTest(seed);
            for (int i = 0; i < 200 && Check.wrong == 0; i++) {
                run.call();
                run.settle();
                run.compare();
            }
            if (Check.wrong > 0) {
                System.out.println("in the run of seed " + seed + ": " + Check.written(run.kit));
            }
        }
        Check.end("EventRunsTest");
    }
}
