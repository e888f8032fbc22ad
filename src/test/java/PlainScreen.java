import java.util.ArrayList;
import java.util.Arrays;
import java.util.List;

/** The pixels of the second, plain kit, always painted as a whole, and what would have been dirty: the document's point 6. */
final class PlainScreen {
    private static final int INK = 0;
    private static final int PAPER = 1;
    private static final int EDGE = 2;
    private static final int LINE = 3;
    private static final int DIR = 11;
    private static final int SHAPE = 12;

    final int[][] pixels;
    boolean all = true;
    int painted;
    private final PlainKit kit;
    // left, top, right, bottom of where may be painted
    private int[] clip;
    private List<PlainWidget> latestOpen = List.of();
    private final List<int[]> gone = new ArrayList<>();

    PlainScreen(PlainKit kit) {
        this.kit = kit;
        pixels = new int[kit.height][kit.width];
        whiten();
    }

    private void whiten() {
        for (int[] line : pixels) {
            Arrays.fill(line, -1);
        }
    }

    // ---- what is dirty ----

    void forget(List<PlainWidget> widgets) {
        widgets.forEach(w -> gone.add(w.paintedSeen));
    }

    int paint() {
        List<int[]> parts = new ArrayList<>(gone);
        gone.clear();
        for (PlainWidget w : kit.all) {
            String look = look(w);
            if (!look.equals(w.painted)) {
                parts.add(w.paintedSeen);
                parts.add(w.seen);
            }
            w.painted = look;
            w.paintedSeen = w.seen;
        }
        if (!latestOpen.equals(kit.open())) {
            latestOpen = kit.open();
            latestOpen.forEach(w -> parts.add(w.seen));
        }
        if (all) {
            parts.add(new int[] {0, 0, kit.width, kit.height});
            all = false;
        }
        whiten();
        kit.order().forEach(this::draw);
        int n = count(parts);
        painted += n;
        return n;
    }

    private int count(List<int[]> parts) {
        boolean[] dirty = new boolean[kit.width * kit.height];
        for (int[] part : parts) {
            for (int y = part[1]; y < part[3]; y++) {
                Arrays.fill(dirty, y * kit.width + part[0], y * kit.width + part[2], true);
            }
        }
        int n = 0;
        for (boolean is : dirty) {
            n += is ? 1 : 0;
        }
        return n;
    }

    /** All of which a change makes a widget CHANGED. */
    private String look(PlainWidget w) {
        StringBuilder b = new StringBuilder();
        b.append(Arrays.toString(w.place)).append(Arrays.toString(w.seen)).append(w.hidden);
        for (int p : new int[] {0, 1, 2, 3, 4, DIR, SHAPE}) {
            b.append(' ').append(w.style[p]);
        }
        b.append(kit.shapes.get(w.style[SHAPE])).append(kit.isChecked(w)).append(w == kit.focus);
        b.append(w.is("field") ? w.text : kit.shown(w)).append('\n');
        switch (w.kind) {
            case "slider": b.append(kit.value(w)); break;
            case "field": b.append(w.caret).append(' ').append(w.anchor).append(' ').append(w.view); break;
            case "tabs": w.kids.forEach(kid -> b.append(kit.shown(kid)).append('\n')); break;
            case "tree": b.append(w.opened); break;
            case "table": b.append(kit.data).append(w.sort).append(w.falling).append('\n').append(w.filter); break;
            case "picture": b.append(Arrays.deepToString(kit.images.get(w.told("img", 1)))); break;
            default: break;
        }
        if (w.isChosen()) {
            b.append('\n').append(kit.selected(w)).append(' ').append(w.top);
        }
        return b.toString();
    }

    // ---- painting ----

    private void over(int x, int y, int colour) {
        if (x < clip[0] || y < clip[1] || x >= clip[2] || y >= clip[3]) {
            return;
        }
        int a = colour >>> 24;
        int out = 255;
        for (int shift = 16; shift >= 0; shift -= 8) {
            out = out << 8 | ((255 - a) * (pixels[y][x] >> shift & 255) + a * (colour >> shift & 255) + 127) / 255;
        }
        pixels[y][x] = out;
    }

    private void fill(int x, int y, int wide, int high, int colour) {
        for (int j = Math.max(y, clip[1]); j < Math.min(y + high, clip[3]); j++) {
            for (int i = Math.max(x, clip[0]); i < Math.min(x + wide, clip[2]); i++) {
                over(i, j, colour);
            }
        }
    }

    private void draw(PlainWidget w) {
        clip = w.seen;
        int[] p = w.place;
        fill(p[0], p[1], p[2], p[3], w.style[PAPER]);
        if (w.style[SHAPE] > 0) {
            drawShape(w);
        }
        int line = w.style[LINE];
        for (int y = clip[1]; y < clip[3]; y++) {
            for (int x = clip[0]; x < clip[2]; x++) {
                if (x < p[0] + line || y < p[1] + line || x >= p[0] + p[2] - line || y >= p[1] + p[3] - line) {
                    over(x, y, w.style[EDGE]);
                }
            }
        }
        clip = w.inner;
        drawContent(w, w.content[0], w.content[1], w.content[2], w.content[3]);
        clip = w.seen;
        for (int y = clip[1]; w == kit.focus && y < clip[3]; y++) {
            for (int x = clip[0]; x < clip[2]; x++) {
                if (x == p[0] || y == p[1] || x == p[0] + p[2] - 1 || y == p[1] + p[3] - 1) {
                    pixels[y][x] ^= 0xffffff;
                }
            }
        }
    }

    private void drawShape(PlainWidget w) {
        for (int y = clip[1]; y < clip[3]; y++) {
            for (int x = clip[0]; x < clip[2]; x++) {
                int cover = cover(w.style[SHAPE], w.place[2], w.place[3], x - w.place[0], y - w.place[1]);
                over(x, y, (w.style[INK] >>> 24) * cover / 16 << 24 | w.style[INK] & 0xffffff);
            }
        }
    }

    int cover(int n, int wide, int high, int x, int y) {
        List<List<Integer>> rings = kit.shapes.getOrDefault(n, List.of());
        int[] lines = new int[400];
        int count = 0;
        for (List<Integer> ring : rings) {
            for (int i = 0; i < ring.size(); i += 2) {
                for (int k = 0; k < 4; k++) {
                    lines[count] = ring.get((i + k) % ring.size());
                    count++;
                }
            }
        }
        return PaintTest.covered(lines, count, wide, high, x, y);
    }

    private void sign(char c, int x, int y, int colour) {
        for (int i = 0; i < kit.letters.columns(c); i++) {
            for (int j = 0; j < 5; j++) {
                if (kit.letters.isSet(c, i, j)) {
                    over(x + i, y + j, colour);
                }
            }
        }
    }

    private void letters(String text, int dir, int x, int y, int colour) {
        int at = x;
        for (char c : LettersTest.plainly(text, dir).toCharArray()) {
            sign(c, at, y, colour);
            at += kit.letters.wide("" + c);
        }
    }

    private void drawContent(PlainWidget w, int x, int y, int wide, int high) {
        int ink = w.style[INK];
        int dir = w.style[DIR];
        String shown = kit.shown(w);
        int text = kit.letters.wide(shown);
        int middle = y + Math.max(0, high - 6) / 2;
        switch (w.kind) {
            case "label":
                List<String> rows = w.told("wrap", 0) == 1 ? kit.letters.broken(shown, wide) : List.of(shown);
                for (int i = 0; i < rows.size(); i++) {
                    int left = dir == 1 ? wide - kit.letters.wide(rows.get(i)) : 0;
                    letters(rows.get(i), dir, x + left, y + 6 * i, ink);
                }
                break;
            case "button": letters(shown, dir, x + Math.max(0, wide - text) / 2, middle, ink); break;
            case "check": case "radio":
                square(w, dir == 1 ? x + wide - 6 : x, middle);
                letters(shown, dir, dir == 1 ? x + wide - 7 - text : x + 7, middle, ink);
                break;
            case "field": drawField(w, x, middle); break;
            case "slider": drawSlider(w, x, y, wide, high); break;
            case "list": drawList(w, x, y, wide, high); break;
            case "tabs": drawTabs(w, x, y); break;
            case "tree": drawTree(w, x, y, high); break;
            case "table": drawTable(w, y, high); break;
            case "picture":
                int[][] image = kit.images.get(w.told("img", 1));
                drawImage(image, x + Math.max(0, wide - image[0].length) / 2, y + Math.max(0, high - image.length) / 2);
                break;
            default: break;
        }
    }

    private void square(PlainWidget w, int x, int y) {
        String[] told = {"ABBBBA", "B....B", "B.CC.B", "B.CC.B", "B....B", "ABBBBA"};
        for (int j = 0; j < 6; j++) {
            for (int i = 0; i < 6; i++) {
                char c = told[j].charAt(i);
                if (c == 'B' || (c == 'A' && w.is("check")) || (c == 'C' && kit.isChecked(w))) {
                    over(x + i, y + j, w.style[INK]);
                }
            }
        }
    }

    private void drawField(PlainWidget w, int x, int y) {
        int at = x;
        for (int i = w.view; i < w.text.length(); i++) {
            boolean selected = (i < w.caret) != (i < w.anchor);
            int wide = kit.letters.wide(w.text.substring(i, i + 1));
            if (selected) {
                fill(at, y, wide, 5, w.style[INK]);
            }
            sign(w.text.charAt(i), at, y, selected ? w.style[PAPER] | 0xff000000 : w.style[INK]);
            at += wide;
        }
        if (w == kit.focus) {
            fill(x + kit.letters.wide(w.text.substring(Math.min(w.view, w.caret), w.caret)), y, 1, 6, w.style[INK]);
        }
    }

    private void drawSlider(PlainWidget w, int x, int y, int wide, int high) {
        long least = w.told("least", 0);
        long most = w.told("most", 99);
        int most3 = Math.max(0, wide - 3);
        fill(x, y + (high - 1) / 2, wide, high > 0 ? 1 : 0, w.style[INK]);
        long at = most > least ? (wide - 3) * (kit.value(w) - least) / (most - least) : 0;
        int held = (int) Math.max(0, Math.min(most3, at));
        fill(w.style[DIR] == 1 ? x + wide - 3 - held : x + held, y, 3, high, w.style[INK]);
    }

    /** The ground of a row: the colour of its letters. */
    private int ground(PlainWidget w, int row, int y) {
        if (kit.selected(w) == row) {
            fill(w.content[0], y, w.content[2], 6, w.style[INK]);
            return w.style[PAPER] | 0xff000000;
        }
        return w.style[INK];
    }

    private void drawList(PlainWidget w, int x, int y, int wide, int high) {
        for (int i = 0; 6 * i < high && w.top + i < w.told("rows", 0); i++) {
            String number = "" + (w.top + i);
            int colour = ground(w, w.top + i, y + 6 * i);
            int left = w.style[DIR] == 1 ? wide - kit.letters.wide(number) : 0;
            letters(number, w.style[DIR], x + left, y + 6 * i, colour);
        }
    }

    /** Left edges (within the content) and widths of the parts of a header. */
    List<int[]> titles(PlainWidget tabs) {
        return PlainPlaces.turned(tabs, tabs.kids.stream().map(kid -> kit.letters.wide(kit.shown(kid)) + 4).toList());
    }

    private void drawTabs(PlainWidget w, int x, int y) {
        List<int[]> parts = titles(w);
        for (int i = 0; i < parts.size(); i++) {
            int left = x + parts.get(i)[0];
            letters(kit.shown(w.kids.get(i)), w.style[DIR], left + 2, y + 1, w.style[INK]);
            if (kit.selected(w) == i) {
                fill(left, y + 7, parts.get(i)[1], 1, w.style[INK]);
            }
        }
    }

    private void drawTree(PlainWidget w, int x, int y, int high) {
        List<Integer> rows = kit.rows(w);
        for (int i = 0; 6 * i < high && w.top + i < rows.size(); i++) {
            int node = rows.get(w.top + i);
            int left = x + 4 * w.nodes().get(node).depth();
            int colour = ground(w, node, y + 6 * i);
            if (w.hasNodes(node)) {
                sign(w.opened.contains(node) ? '-' : '+', left, y + 6 * i, colour);
            }
            sign(w.nodes().get(node).sign(), left + 6, y + 6 * i, colour);
        }
    }

    /** Left edges (within the content) and widths of a table's columns. */
    List<int[]> columns(PlainWidget table) {
        int n = kit.data.get(0).size();
        List<Integer> sizes = new ArrayList<>();
        for (int c = 0; c < n; c++) {
            int each = table.content[2] / n;
            sizes.add(c == n - 1 ? table.content[2] - each * c : each);
        }
        return PlainPlaces.turned(table, sizes);
    }

    private void drawTable(PlainWidget w, int y, int high) {
        List<Integer> rows = kit.rows(w);
        if (!kit.data.isEmpty()) {
            drawLine(w, 0, y, w.style[INK]);
        }
        for (int i = 0; 6 * i + 6 < high && w.top + i < rows.size(); i++) {
            int row = rows.get(w.top + i);
            drawLine(w, row + 1, y + 6 * i + 6, ground(w, row, y + 6 * i + 6));
        }
    }

    private void drawLine(PlainWidget w, int line, int y, int colour) {
        List<int[]> columns = columns(w);
        for (int c = 0; c < columns.size(); c++) {
            int left = w.content[0] + columns.get(c)[0];
            String part = kit.part(line, c);
            clip = new int[] {w.inner[0], w.inner[1], Math.min(w.inner[2], left + columns.get(c)[1] - 1), w.inner[3]};
            letters(part, w.style[DIR], left, y, colour);
            if (line == 0 && w.sort == c) {
                sign(w.falling ? '-' : '+', left + kit.letters.wide(part), y, colour);
            }
            clip = w.inner;
        }
    }

    private void drawImage(int[][] image, int x, int y) {
        for (int j = 0; j < image.length; j++) {
            for (int i = 0; i < image[0].length; i++) {
                boolean in = x + i >= clip[0] && y + j >= clip[1] && x + i < clip[2] && y + j < clip[3];
                int own = image[j][i];
                int out = 255;
                for (int shift = 16; in && shift >= 0; shift -= 8) {
                    int was = pixels[y + j][x + i] >> shift & 255;
                    out = out << 8 | Math.min(255, (own >> shift & 255) + PlainKit.times(was, 255 - (own >>> 24)));
                }
                if (in) {
                    pixels[y + j][x + i] = out;
                }
            }
        }
    }
}
