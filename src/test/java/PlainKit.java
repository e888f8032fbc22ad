import java.util.ArrayList;
import java.util.HashMap;
import java.util.List;
import java.util.Map;
import java.util.function.Function;

/** A second, plain kit by the document's words: all is counted as a whole behind each call. WholeRunsTest compares both. */
final class PlainKit {
    final int width;
    final int height;
    final PlainLetters letters = new PlainLetters();
    final int[] cells = new int[16];
    // from 1 on; lines of pixels
    final Map<Integer, int[][]> images = new HashMap<>();
    final Map<Integer, List<List<Integer>>> shapes = new HashMap<>();
    List<PlainWidget> all = new ArrayList<>();
    List<PlainReader.Rule> rules = List.of();
    List<List<String>> data = List.of();
    Map<String, String> tongue = Map.of();
    String tape = "";
    String clip = "";
    PlainWidget hover;
    PlainWidget pressed;
    PlainWidget focus;
    boolean isDown;
    int pointX;
    int pointY;
    int ticks;
    final PlainScreen screen;
    final PlainHands hands = new PlainHands(this);
    private final PlainPlaces places = new PlainPlaces(this);
    // those that came to be open, the newest last
    private final List<PlainWidget> dialogs = new ArrayList<>();
    private final List<Move> moves = new ArrayList<>();

    /** A move under way. */
    private static final class Move {
        final PlainWidget w;
        final int property;
        final int from;
        final int to;
        final int ticks;
        int went;

        Move(PlainWidget w, int property, int to, int ticks) {
            this.w = w;
            this.property = property;
            this.to = to;
            this.ticks = ticks;
            from = w.style[property];
        }
    }

    PlainKit(int width, int height) {
        this.width = Math.max(16, Math.min(96, width));
        this.height = Math.max(16, Math.min(64, height));
        for (int n = 1; n <= 4; n++) {
            images.put(n, new int[1][1]);
        }
        screen = new PlainScreen(this);
    }

    PlainWidget at(int w) {
        return w >= 0 && w < all.size() ? all.get(w) : null;
    }

    int number(PlainWidget w) {
        return all.indexOf(w);
    }

    // ---- what the tape tells ----

    void tell(String told) {
        tape = (tape + told).substring(0, Math.min(3000, tape.length() + told.length()));
    }

    private String taken() {
        String told = tape;
        tape = "";
        return told;
    }

    private int read(Function<PlainReader, Integer> reading) {
        try {
            int answer = reading.apply(new PlainReader(taken()));
            settle();
            return answer;
        } catch (PlainReader.Fault fault) {
            return -1 - fault.place;
        }
    }

    int form() {
        return read(reader -> {
            all = reader.widget(null, List.of()).all();
            hover = null;
            pressed = null;
            focus = null;
            isDown = false;
            dialogs.clear();
            moves.clear();
            screen.all = true;
            return all.size();
        });
    }

    int style() {
        return read(reader -> {
            rules = reader.rules();
            return count(2);
        });
    }

    int shape(int n) {
        if (n < 1 || n > 8) {
            tape = "";
            return -4;
        }
        return read(reader -> {
            shapes.put(n, reader.rings());
            return shapes.get(n).stream().mapToInt(ring -> ring.size() / 2).sum();
        });
    }

    int glyph(int c, int columns, long bits) {
        if (c < 32 || c > 126 || columns < 1 || columns > 7) {
            return -4;
        }
        letters.tell(c, columns, bits);
        screen.all = true;
        settle();
        return 1;
    }

    int text(int w) {
        String told = taken().replaceAll("[\n\"]", "");
        if (at(w) == null) {
            return -2;
        }
        if (!at(w).isTold()) {
            return -5;
        }
        at(w).text = told.substring(0, Math.min(40, told.length()));
        settle();
        return at(w).text.length();
    }

    int data() {
        return read(reader -> {
            data = reader.data();
            return data.size();
        });
    }

    int tongue() {
        return read(reader -> {
            tongue = reader.tongue();
            return tongue.size();
        });
    }

    int filter(int w) {
        String told = taken().replace("\n", "");
        if (at(w) == null || !at(w).is("table")) {
            return -2;
        }
        at(w).filter = told.substring(0, Math.min(8, told.length()));
        settle();
        return rows(at(w)).size();
    }

    int insert(int w, int place) {
        PlainWidget box = at(w);
        boolean full = box != null && box.is("scroll") && !box.kids.isEmpty();
        if (box == null || !box.isBox() || full || place < 0 || place > box.kids.size()) {
            tape = "";
            return -100000;
        }
        return read(reader -> {
            PlainWidget told = reader.widget(box, all);
            told.parent = box;
            box.kids.add(place, told);
            all = all.get(0).all();
            return number(told);
        });
    }

    int remove(int w) {
        PlainWidget gone = at(w);
        if (gone == null || w == 0) {
            return gone == null ? -2 : -5;
        }
        screen.forget(gone.all());
        gone.parent.kids.remove(gone);
        all = all.get(0).all();
        hover = all.contains(hover) ? hover : null;
        pressed = all.contains(pressed) ? pressed : null;
        focus = all.contains(focus) ? focus : null;
        dialogs.retainAll(all);
        moves.removeIf(move -> !all.contains(move.w));
        settle();
        return all.size();
    }

    // ---- cells, moves, images ----

    int put(int c, int v) {
        int was = cells[c];
        cells[c] = v;
        settle();
        return was;
    }

    int able(int w, boolean off) {
        if (at(w) == null) {
            return -2;
        }
        int was = at(w).told("off", 0);
        at(w).told.put("off", off ? 1 : 0);
        settle();
        return was;
    }

    int move(int w, int property, int to, int n) {
        if (at(w) == null) {
            return -2;
        }
        if (property < 3 || property > 8 || n < 1 || n > 1000) {
            return -4;
        }
        Move told = new Move(at(w), property, Math.max(0, Math.min(PlainReader.MOST[property], to)), n);
        boolean newer = moves.removeIf(move -> move.w == told.w && move.property == property);
        if (!newer && moves.size() == 8) {
            return -1;
        }
        moves.add(told);
        told.w.moved.put(property, told.from);
        settle();
        return 1;
    }

    int tick(int n) {
        if (n < 1 || n > 1000) {
            return -4;
        }
        ticks += n;
        for (Move move : moves) {
            move.went = Math.min(move.ticks, move.went + n);
            move.w.moved.put(move.property, move.from + (move.to - move.from) * move.went / move.ticks);
        }
        int were = moves.size();
        moves.removeIf(move -> move.went == move.ticks);
        settle();
        return were - moves.size();
    }

    private static boolean isSize(int w, int h) {
        return w >= 1 && w <= 32 && h >= 1 && h <= 32;
    }

    private int image(int n, int[][] lines) {
        images.put(n, lines);
        settle();
        return 1;
    }

    int image(int n, int w, int h) {
        return images.containsKey(n) && isSize(w, h) ? image(n, new int[h][w]) : -4;
    }

    boolean hasPixel(int n, int x, int y) {
        return images.containsKey(n) && y >= 0 && y < images.get(n).length && x >= 0 && x < images.get(n)[0].length;
    }

    int dot(int n, int x, int y, int lanes) {
        if (!hasPixel(n, x, y)) {
            return -4;
        }
        images.get(n)[y][x] = lanes;
        settle();
        return 1;
    }

    int blend(int a, int b, int kind) {
        if (!images.containsKey(a) || !images.containsKey(b) || kind < 0 || kind > 11) {
            return -4;
        }
        int[][] onto = images.get(a);
        int[][] s = images.get(b);
        if (onto.length != s.length || onto[0].length != s[0].length) {
            return -5;
        }
        int[][] lines = new int[onto.length][onto[0].length];
        for (int y = 0; y < lines.length; y++) {
            for (int x = 0; x < lines[0].length; x++) {
                lines[y][x] = blended(s[y][x], onto[y][x], kind);
            }
        }
        return image(a, lines);
    }

    private static int blended(int s, int d, int kind) {
        int out = 0;
        for (int shift = 24; shift >= 0; shift -= 8) {
            out = out << 8 | Math.min(255, blended(s >> shift & 255, d >> shift & 255, s >>> 24, d >>> 24, kind));
        }
        return out;
    }

    static int times(int x, int y) {
        return (x * y + 127) / 255;
    }

    private static int blended(int s, int d, int sa, int da, int kind) {
        switch (kind) {
            case 0: return 0;
            case 1: return s;
            case 2: return s + times(d, 255 - sa);
            case 3: return times(s, da);
            case 4: return times(s, 255 - da);
            case 5: return times(s, da) + times(d, 255 - sa);
            case 6: return times(s, 255 - da) + times(d, 255 - sa);
            case 7: return s + d;
            case 8: return times(s, d);
            case 9: return s + d - times(s, d);
            case 10: return Math.min(s, d);
            default: return Math.max(s, d);
        }
    }

    int scale(int n, int w, int h) {
        if (!images.containsKey(n) || !isSize(w, h)) {
            return -4;
        }
        int[][] old = images.get(n);
        int[][] lines = new int[h][w];
        for (int y = 0; y < h; y++) {
            for (int x = 0; x < w; x++) {
                lines[y][x] = scaled(old, x, y, w, h);
            }
        }
        return image(n, lines);
    }

    /** One old pixel is w times h units; a new one is as many as the old image is pixels. */
    private static int scaled(int[][] old, int x, int y, int w, int h) {
        int wide = old[0].length;
        int high = old.length;
        int[] lanes = new int[4];
        for (int j = y * high; j < y * high + high; j++) {
            for (int i = x * wide; i < x * wide + wide; i++) {
                for (int lane = 0; lane < 4; lane++) {
                    lanes[lane] += old[j / h][i / w] >> 8 * lane & 255;
                }
            }
        }
        int out = 0;
        for (int lane = 3; lane >= 0; lane--) {
            out = out << 8 | (2 * lanes[lane] + wide * high) / (2 * wide * high);
        }
        return out;
    }

    // ---- behind each call that changes something ----

    void count() {
        places.count();
    }

    void settle() {
        count();
        dialogs.removeIf(dialog -> dialog.hidden);
        for (PlainWidget w : all) {
            if (w.is("dialog") && !w.hidden && !dialogs.contains(w)) {
                dialogs.add(w);
            }
        }
        boolean button = pressed != null && !canHave(pressed);
        boolean keys = focus != null && !canHave(focus);
        if (button) {
            pressed = null;
        }
        if (keys) {
            focus.typing = false;
            focus = null;
        }
        count();
        all.forEach(this::hold);
    }

    /** Whether it can have the button or FOCUS, by its kind, OFF, hidden and the TOP dialog. */
    boolean canHave(PlainWidget w) {
        return w.canBePressed() && !w.isOff() && !w.hidden && (top() == null || w.home == top());
    }

    private void hold(PlainWidget w) {
        if (w.is("scroll") && !w.hidden) {
            w.top = Math.min(w.top, room(w));
        } else if (w.is("tree") || w.is("table")) {
            w.top = Math.max(0, Math.min(w.top, rows(w).size() - 1));
        } else if (w.is("field") && !w.hidden) {
            w.view = Math.min(w.view, w.caret);
            while (w.view < w.caret && letters.wide(w.text.substring(w.view, w.caret)) > w.content[2] - 1) {
                w.view++;
            }
        }
    }

    /** How far a scroll can be scrolled. */
    int room(PlainWidget scroll) {
        int high = scroll.kids.isEmpty() || scroll.kids.get(0).is("dialog") ? 0 : scroll.kids.get(0).place[3];
        return Math.max(0, high - scroll.content[3]);
    }

    /** The TOP dialog, or null. */
    PlainWidget top() {
        PlainWidget top = null;
        for (PlainWidget dialog : dialogs) {
            top = dialog.hidden ? top : dialog;
        }
        return top;
    }

    /** The open dialogs, in their order of painting. */
    List<PlainWidget> open() {
        List<PlainWidget> open = new ArrayList<>(all);
        open.removeIf(w -> w.hidden || !w.is("dialog") || dialogs.contains(w));
        open.addAll(dialogs);
        open.removeIf(w -> w.hidden);
        return open;
    }

    /** All that is painted, in its order. */
    List<PlainWidget> order() {
        List<PlainWidget> homes = new ArrayList<>(open());
        homes.add(0, null);
        List<PlainWidget> order = new ArrayList<>();
        for (PlainWidget home : homes) {
            all.stream().filter(w -> !w.hidden && w.home == home).forEach(order::add);
        }
        return order;
    }

    // ---- what follows from cells, rows, states ----

    boolean isChecked(PlainWidget w) {
        if (w.bind() < 0) {
            return false;
        }
        return w.is("check") ? cells[w.bind()] != 0 : w.is("radio") && cells[w.bind()] == w.told("pick", 0);
    }

    int states(PlainWidget w) {
        boolean over = hover != null && hover.isIn(w);
        return (over ? 1 : 0) + (over && w == pressed ? 2 : 0) + (w == focus ? 4 : 0) + (isChecked(w) ? 8 : 0) + (w.isOff() ? 16 : 0);
    }

    /** How many rows, nodes or pages can be selected. */
    private int choices(PlainWidget w) {
        switch (w.kind) {
            case "list": return w.told("rows", 0);
            case "tabs": return w.kids.size();
            case "tree": return w.nodes().size();
            case "table": return data.size() - 1;
            default: return 0;
        }
    }

    int selected(PlainWidget w) {
        int v = w.bind() < 0 ? w.latest : cells[w.bind()];
        return v >= 0 && v < choices(w) ? v : -1;
    }

    int value(PlainWidget slider) {
        return slider.bind() < 0 ? slider.told("least", 0) : cells[slider.bind()];
    }

    void set(PlainWidget w, long v) {
        if (w.bind() >= 0) {
            long held = w.is("slider") ? Math.max(w.told("least", 0), Math.min(w.told("most", 99), v)) : v;
            cells[w.bind()] = (int) held;
        }
    }

    String shown(PlainWidget w) {
        boolean told = (w.isTold() || w.isPage()) && w.text.startsWith("@");
        return told ? tongue.getOrDefault(w.text.substring(1), w.text) : w.text;
    }

    /** The rows of a table as they stand, the shown nodes of a tree. */
    List<Integer> rows(PlainWidget w) {
        List<Integer> rows = new ArrayList<>();
        if (w.is("tree")) {
            for (int node = 0; node < w.nodes().size(); node++) {
                if (w.isShown(node)) {
                    rows.add(node);
                }
            }
        }
        for (int row = 0; w.is("table") && row < data.size() - 1; row++) {
            if (data.get(row + 1).stream().anyMatch(part -> part.contains(w.filter))) {
                rows.add(row);
            }
        }
        if (w.sort >= 0 && !data.isEmpty() && w.sort < data.get(0).size()) {
            rows.sort((a, b) -> (w.falling ? -1 : 1) * compare(part(a + 1, w.sort), part(b + 1, w.sort)));
        }
        return rows;
    }

    String part(int line, int column) {
        List<String> parts = data.get(line);
        return column < parts.size() ? parts.get(column) : "";
    }

    private static int compare(String a, String b) {
        boolean an = a.matches("[0-9]{1,7}");
        boolean bn = b.matches("[0-9]{1,7}");
        if (an && bn) {
            return Integer.compare(Integer.parseInt(a), Integer.parseInt(b));
        }
        return an == bn ? a.compareTo(b) : an ? -1 : 1;
    }

    // ---- what is asked ----

    int widget(int w, int what) {
        PlainWidget asked = at(w);
        switch (what) {
            case 0: return PlainWidget.KINDS.indexOf(asked.kind);
            case 1: return number(asked.parent);
            case 2: return asked.kids.size();
            case 3: return w == 0 ? 0 : asked.parent.kids.indexOf(asked);
            case 4: case 5: case 6: case 7: return asked.place[what - 4];
            case 8: case 9: return asked.least[what - 8];
            case 10: return asked.hidden ? 1 : 0;
            case 11: return states(asked);
            case 12: return asked.bind();
            case 13: return asked.text.length();
            case 14: return asked.top;
            case 15: return selected(asked);
            default: return -1;
        }
    }

    int field(int w, int what) {
        PlainWidget f = at(w);
        int[] answers = {f.caret, f.anchor, f.view, f.done.size(), f.undone.size()};
        return f.is("field") && what >= 0 && what < answers.length ? answers[what] : -1;
    }

    /** The rows of a widget's text, each as it is ordered. */
    List<String> ordered(int w) {
        PlainWidget asked = at(w);
        if (asked.is("field")) {
            return List.of();
        }
        boolean wrapped = asked.is("label") && asked.told("wrap", 0) == 1;
        List<String> rows = wrapped ? letters.broken(shown(asked), asked.content[2]) : List.of(shown(asked));
        return rows.stream().map(row -> LettersTest.plainly(row, asked.style[11])).toList();
    }

    String spoken(int w) {
        PlainWidget asked = at(w);
        if (asked.hidden) {
            return "";
        }
        String more = asked.isTold() ? shown(asked) : asked.is("field") ? asked.text : "";
        if (asked.is("slider")) {
            more = "" + value(asked);
        } else if (selected(asked) >= 0) {
            more = "" + selected(asked);
        }
        return asked.kind + (more.isEmpty() ? "" : " ") + more + (isChecked(asked) ? " checked" : "")
            + (asked == focus ? " focus" : "") + (asked.isOff() ? " off" : "");
    }

    String written() {
        return all.isEmpty() ? "" : written(all.get(0));
    }

    private static String written(PlainWidget w) {
        StringBuilder b = new StringBuilder(w.kind);
        b.append(w.name.isEmpty() ? "" : "#").append(w.name);
        w.classes.forEach(c -> b.append('.').append(c));
        List<String> told = new ArrayList<>();
        Map<String, Integer> without = Map.of("cols", 2, "bind", -1, "least", 0, "most", 99, "rows", 0, "pick", 0, "wide", 8, "wrap", 0,
            "off", 0, "img", 1);
        for (String a : List.of("cols", "bind", "least", "most", "rows", "pick", "wide", "wrap", "off", "img")) {
            if (w.told(a, without.get(a)) != without.get(a)) {
                told.add(a + "=" + w.told.get(a));
            }
        }
        if (w.told.containsKey("do")) {
            told.add("do=" + w.told.get("do") + (char) (int) w.told.get("sign") + w.told.get("by"));
        }
        b.append(told.isEmpty() ? "" : "(" + String.join(",", told) + ")");
        b.append(w.text.isEmpty() ? "" : "\"" + w.text + "\"");
        if (!w.kids.isEmpty()) {
            b.append('{').append(String.join(" ", w.kids.stream().map(PlainKit::written).toList())).append('}');
        }
        return b.toString();
    }

    int count(int what) {
        switch (what) {
            case 0: return tape.length();
            case 1: return all.size();
            case 2: return rules.stream().mapToInt(rule -> rule.selectors().size()).sum();
            case 3: return rules.stream().mapToInt(rule -> rule.declarations().size()).sum();
            case 4: return moves.size();
            case 5: return number(focus);
            case 6: return number(pressed);
            case 7: return number(hover);
            case 8: return clip.length();
            case 9: return screen.painted;
            case 10: return ticks;
            case 11: return data.size();
            case 12: return tongue.size();
            case 13: return number(top());
            default: return -1;
        }
    }
}
