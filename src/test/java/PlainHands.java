import java.util.ArrayList;
import java.util.Collections;
import java.util.List;

/** Pointer and keys of the second, plain kit: the document's points 7, 8, 9, 11, 12, 13, 14. */
final class PlainHands {
    private final PlainKit kit;

    PlainHands(PlainKit kit) {
        this.kit = kit;
    }

    // ---- the pointer ----

    private static boolean isIn(int[] bounds, int x, int y) {
        return x >= bounds[0] && y >= bounds[1] && x < bounds[2] && y < bounds[3];
    }

    int point(int x, int y) {
        kit.pointX = x;
        kit.pointY = y;
        kit.hover = null;
        PlainWidget top = kit.top();
        for (PlainWidget w : kit.order()) {
            if (isIn(w.seen, x, y) && (top == null || w.home == top)) {
                kit.hover = w;
            }
        }
        if (kit.pressed != null) {
            kit.count();
            if (kit.pressed.is("slider")) {
                slide(kit.pressed);
            } else if (kit.pressed.is("field")) {
                kit.pressed.typing = false;
                kit.pressed.caret = caretAt(kit.pressed);
            }
        }
        kit.settle();
        return kit.number(kit.hover);
    }

    int down() {
        if (kit.isDown) {
            return -5;
        }
        PlainWidget w = kit.hover;
        while (w != null && !(w.canBePressed() && !w.isOff())) {
            w = w.parent;
        }
        kit.isDown = true;
        kit.pressed = w;
        endTyping();
        kit.focus = w;
        kit.count();
        if (w != null) {
            press(w);
        }
        kit.settle();
        return kit.number(w);
    }

    private void endTyping() {
        kit.all.forEach(w -> w.typing = false);
    }

    private void press(PlainWidget w) {
        int x = kit.pointX - w.content[0];
        int y = kit.pointY - w.content[1];
        boolean within = x >= 0 && y >= 0 && x < w.content[2] && y < w.content[3];
        if (w.is("slider")) {
            slide(w);
        } else if (w.is("field")) {
            w.caret = caretAt(w);
            w.anchor = w.caret;
        } else if (within && (w.is("list") || w.is("tree"))) {
            pressRow(w, y / 6, x);
        } else if (within && w.is("table") && y >= 6) {
            pressRow(w, y / 6 - 1, x);
        } else if (within && w.is("table") && !kit.data.isEmpty()) {
            sortBy(w, partAt(w, kit.screen.columns(w), x));
        } else if (within && w.is("tabs") && y < 8 && isIn(w.seen, kit.pointX, kit.pointY)) {
            int page = partAt(w, kit.screen.titles(w), x);
            if (page >= 0) {
                select(w, page);
            }
        }
    }

    /** Which of these parts (their left edges and widths) is at x, or -1. */
    private static int partAt(PlainWidget w, List<int[]> parts, int x) {
        for (int i = 0; i < parts.size(); i++) {
            if (x >= parts.get(i)[0] && x < parts.get(i)[0] + parts.get(i)[1]) {
                return i;
            }
        }
        return -1;
    }

    private static void sortBy(PlainWidget table, int column) {
        if (column >= 0) {
            boolean up = table.sort == column && !table.falling;
            boolean down = table.sort == column && table.falling;
            table.sort = down ? -1 : column;
            table.falling = up;
        }
    }

    private void pressRow(PlainWidget w, int line, int x) {
        List<Integer> rows = kit.rows(w);
        int place = w.top + line;
        if (w.is("list") && place < w.told("rows", 0)) {
            select(w, place);
        } else if (!w.is("list") && place < rows.size()) {
            int row = rows.get(place);
            int indent = w.is("tree") ? 4 * w.nodes().get(row).depth() : 0;
            if (w.is("tree") && w.hasNodes(row) && x >= indent && x < indent + 6) {
                open(w, row, !w.opened.contains(row));
            } else {
                select(w, row);
            }
        }
    }

    private static void open(PlainWidget tree, int node, boolean opened) {
        if (opened && tree.hasNodes(node)) {
            tree.opened.add(node);
        } else {
            tree.opened.remove(node);
        }
    }

    private void select(PlainWidget w, int row) {
        if (w.bind() >= 0) {
            kit.set(w, row);
        } else {
            w.latest = row;
        }
    }

    private void slide(PlainWidget w) {
        int least = w.told("least", 0);
        int most = w.told("most", 99);
        int room = w.content[2] - 3;
        boolean turned = w.style[11] == 1;
        int beginning = turned ? w.content[0] + w.content[2] - 1 : w.content[0];
        int way = turned ? beginning - 1 - kit.pointX : kit.pointX - beginning - 1;
        kit.set(w, room <= 0 ? least : least + (most - least) * Math.max(0, Math.min(room, way)) / room);
    }

    private int caretAt(PlainWidget f) {
        int place = f.content[0];
        for (int i = f.view; i < f.text.length(); i++) {
            int wide = kit.letters.wide(f.text.substring(i, i + 1));
            if (place + wide / 2 >= kit.pointX) {
                return i;
            }
            place += wide;
        }
        return f.text.length();
    }

    int up() {
        if (!kit.isDown) {
            return -5;
        }
        PlainWidget w = kit.pressed;
        kit.isDown = false;
        kit.pressed = null;
        boolean clicked = w != null && kit.hover != null && kit.hover.isIn(w);
        if (clicked) {
            click(w);
        }
        kit.settle();
        return clicked ? kit.number(w) : -1;
    }

    private void click(PlainWidget w) {
        if (w.is("button") && w.told.containsKey("do")) {
            int c = w.told.get("do");
            int by = w.told.get("by");
            int sign = w.told.get("sign");
            kit.cells[c] = sign == '=' ? by : sign == '+' ? kit.cells[c] + by : kit.cells[c] - by;
        } else if (w.is("check")) {
            kit.set(w, kit.isChecked(w) ? 0 : 1);
        } else if (w.is("radio")) {
            kit.set(w, w.told("pick", 0));
        }
    }

    int wheel(int n) {
        if (n < -1000 || n > 1000) {
            return -4;
        }
        PlainWidget w = kit.hover;
        while (w != null && !List.of("list", "scroll", "tree", "table").contains(w.kind)) {
            w = w.parent;
        }
        if (w != null) {
            boolean scroll = w.is("scroll");
            int most = scroll ? kit.room(w) : count(w) - whole(w);
            w.top = Math.max(0, Math.min(most, w.top + (scroll ? 6 : 1) * n));
            kit.settle();
        }
        return kit.number(w);
    }

    /** How many rows can be seen wholly. */
    private static int whole(PlainWidget w) {
        return Math.max(1, (w.content[3] - (w.is("table") ? 6 : 0)) / 6);
    }

    private int count(PlainWidget w) {
        return w.is("list") ? w.told("rows", 0) : kit.rows(w).size();
    }

    // ---- the keys ----

    int focus(int w) {
        PlainWidget told = kit.at(w);
        if (told == null || !kit.canHave(told)) {
            return told == null ? -2 : -5;
        }
        focusOn(told);
        kit.settle();
        return 1;
    }

    private void focusOn(PlainWidget w) {
        if (w != kit.focus) {
            endTyping();
        }
        kit.focus = w;
    }

    int key(int k, boolean shift) {
        if (k < 1 || k > 127 || (k > 15 && k < 32)) {
            return -4;
        }
        PlainWidget had = kit.focus;
        if (k < 32 || k == 127 || k == '"') {
            endTyping();
        }
        if (k == 13) {
            focusOn(next(shift));
        } else if (k == 15) {
            if (kit.top() != null) {
                kit.cells[kit.top().bind()] = 0;
            }
        } else if (had != null) {
            keyOf(had, k, shift);
        }
        kit.settle();
        return kit.number(had);
    }

    private PlainWidget next(boolean back) {
        List<PlainWidget> row = new ArrayList<>(kit.all);
        row.removeIf(w -> !kit.canHave(w));
        if (back) {
            Collections.reverse(row);
        }
        int at = row.indexOf(kit.focus);
        return row.isEmpty() ? null : row.get((at + 1) % row.size());
    }

    private void keyOf(PlainWidget w, int k, boolean shift) {
        int way = (k == 2) == (w.style[11] == 0) ? 1 : -1;
        boolean aside = k == 1 || k == 2;
        switch (w.kind) {
            case "button": case "check": case "radio":
                if (k == 14) {
                    click(w);
                }
                break;
            case "slider":
                if (aside) {
                    kit.set(w, (long) kit.value(w) + way);
                }
                break;
            case "tabs":
                int page = kit.selected(w) < 0 ? 0 : kit.selected(w) + way;
                if (aside && page >= 0 && page < w.kids.size()) {
                    select(w, page);
                }
                break;
            case "field": keyOfField(w, k, shift); break;
            default:
                if (k == 9 || k == 10 || k == 3 || k == 4) {
                    keyOfRows(w, k);
                } else if (aside && w.is("tree")) {
                    keyOfTree(w, k);
                }
                break;
        }
    }

    private void keyOfRows(PlainWidget w, int k) {
        int n = count(w);
        int at = w.is("list") ? kit.selected(w) : kit.rows(w).indexOf(kit.selected(w));
        if (n > 0) {
            int to = at < 0 ? 0 : k == 9 ? Math.max(0, at - 1) : Math.min(n - 1, at + 1);
            to = k == 3 ? 0 : k == 4 ? n - 1 : to;
            select(w, w.is("list") ? to : kit.rows(w).get(to));
        }
        show(w);
    }

    private void keyOfTree(PlainWidget w, int k) {
        int node = kit.selected(w);
        if (node >= 0 && w.isShown(node)) {
            int up = w.nodes().get(node).up();
            if (k == 2) {
                open(w, node, true);
            } else if (w.opened.contains(node)) {
                open(w, node, false);
            } else if (up >= 0) {
                select(w, up);
            }
        }
        show(w);
    }

    /** The top changes as little as it must for the selected row to be seen wholly. */
    private void show(PlainWidget w) {
        kit.count();
        int at = w.is("list") ? kit.selected(w) : kit.rows(w).indexOf(kit.selected(w));
        if (at >= 0) {
            w.top = Math.min(at, Math.max(w.top, at - whole(w) + 1));
        }
    }

    // ---- fields ----

    private void keyOfField(PlainWidget f, int k, boolean shift) {
        int from = Math.min(f.caret, f.anchor);
        int to = Math.max(f.caret, f.anchor);
        if ((k == 5 || k == 6) && from < to) {
            kit.clip = f.text.substring(from, to);
        }
        switch (k) {
            case 1: case 2: case 3: case 4: moveCaret(f, k, shift); break;
            case 5: break;
            case 6: change(f, from, to, "", false); break;
            case 7: change(f, from, to, kit.clip, false); break;
            case 8: change(f, from == to ? Math.max(0, from - 1) : from, to, "", false); break;
            case 127: change(f, from, from == to ? Math.min(f.text.length(), to + 1) : to, "", false); break;
            case 11: back(f, f.done, f.undone); break;
            case 12: back(f, f.undone, f.done); break;
            default:
                if (k >= 32 && k != '"') {
                    boolean is = change(f, from, to, "" + (char) k, f.typing);
                    f.typing |= is;
                }
                break;
        }
    }

    private static void moveCaret(PlainWidget f, int k, boolean shift) {
        int way = k == 1 ? -1 : 1;
        if (k >= 3) {
            f.caret = k == 3 ? 0 : f.text.length();
        } else if (f.caret != f.anchor && !shift) {
            f.caret = k == 1 ? Math.min(f.caret, f.anchor) : Math.max(f.caret, f.anchor);
        } else {
            f.caret = Math.max(0, Math.min(f.text.length(), f.caret + way));
        }
        f.anchor = shift ? f.anchor : f.caret;
    }

    private static boolean change(PlainWidget f, int from, int to, String told, boolean joined) {
        String in = told.substring(0, Math.min(told.length(), 40 - f.text.length() + to - from));
        if (from == to && in.isEmpty()) {
            return false;
        }
        if (!joined) {
            f.done.add(step(f));
        }
        if (f.done.size() > 16) {
            f.done.remove(0);
        }
        f.undone.clear();
        f.text = f.text.substring(0, from) + in + f.text.substring(to);
        f.caret = from + in.length();
        f.anchor = f.caret;
        return true;
    }

    private static PlainWidget.Step step(PlainWidget f) {
        return new PlainWidget.Step(f.text, f.caret, f.anchor);
    }

    private static void back(PlainWidget f, List<PlainWidget.Step> from, List<PlainWidget.Step> to) {
        if (!from.isEmpty()) {
            to.add(step(f));
            PlainWidget.Step step = from.remove(from.size() - 1);
            f.text = step.text();
            f.caret = step.caret();
            f.anchor = step.anchor();
        }
    }
}
