import java.util.ArrayList;
import java.util.List;
import java.util.Map;

/** Paints a whole screen by the words of the document's points 4 to 8, 11, 13 and 15, from what can be asked of an object. */
final class PlainPainter {
    private final ScreenKit kit;
    private final int width;
    private final int[] pixels;
    private final Map<Character, Integer> glyphColumns;
    private final Map<Character, Long> glyphBits;
    private final String[] shapes;
    // what may be painted: left, top, right, bottom
    private int[] clip;
    private List<String[]> data;
    private int sort;
    private boolean falling;

    PlainPainter(ScreenKit kit, int width, int height, Map<Character, Integer> glyphColumns, Map<Character, Long> glyphBits,
        String[] shapes) {
        this.kit = kit;
        this.shapes = shapes;
        this.width = width;
        this.glyphColumns = glyphColumns;
        this.glyphBits = glyphBits;
        pixels = new int[width * height];
        java.util.Arrays.fill(pixels, -1);
    }

    private static int[] cut(int[] a, int[] b) {
        int[] c = {Math.max(a[0], b[0]), Math.max(a[1], b[1]), Math.min(a[2], b[2]), Math.min(a[3], b[3])};
        return c[0] < c[2] && c[1] < c[3] ? c : new int[4];
    }

    private static int[] place(ScreenKit kit, int w, int frame) {
        int x = kit.widget(w, 4);
        int y = kit.widget(w, 5);
        return new int[] {x + frame, y + frame, Math.max(x + frame, x + kit.widget(w, 6) - frame),
            Math.max(y + frame, y + kit.widget(w, 7) - frame)};
    }

    /** Left, top, right, bottom of a widget's content. */
    static int[] content(ScreenKit kit, int w) {
        return place(kit, w, kit.styled(w, 3) + kit.styled(w, 4));
    }

    /** Of each widget what is visible of it, and of its content for what is in it. */
    static int[][][] visible(ScreenKit kit, int width, int height) {
        int n = kit.count(1);
        int[][] seen = new int[n][];
        int[][] inner = new int[n][];
        int[] screen = {0, 0, width, height};
        for (int w = 0; w < n; w++) {
            boolean free = kit.widget(w, 1) < 0 || kit.widget(w, 0) == 15;
            int[] around = free ? screen : inner[kit.widget(w, 1)];
            seen[w] = kit.widget(w, 10) == 1 ? new int[4] : cut(around, place(kit, w, 0));
            inner[w] = cut(around, content(kit, w));
        }
        return new int[][][] {seen, inner};
    }

    int pixel(int i) {
        return pixels[i];
    }

    private int columns(char c) {
        return glyphColumns.getOrDefault(c, 2 + c % 3);
    }

    private boolean isSet(char c, int i, int j) {
        if (glyphBits.containsKey(c)) {
            return (glyphBits.get(c) >> 8 * j + i & 1) == 1;
        }
        return (0x1a95 >> (c * 7 + 5 * i + 11 * j) % 13 & 1) == 1;
    }

    private int wide(String text) {
        int sum = 0;
        for (char c : text.toCharArray()) {
            sum += columns(c) + 1;
        }
        return sum;
    }

    private void over(int x, int y, int colour) {
        if (x < clip[0] || y < clip[1] || x >= clip[2] || y >= clip[3]) {
            return;
        }
        int a = colour >>> 24;
        int was = pixels[y * width + x];
        int out = 0xff;
        for (int shift = 16; shift >= 0; shift -= 8) {
            out = out << 8 | ((255 - a) * (was >> shift & 255) + a * (colour >> shift & 255) + 127) / 255;
        }
        pixels[y * width + x] = out;
    }

    private void fill(int x, int y, int w, int h, int colour) {
        for (int j = y; j < y + h; j++) {
            for (int i = x; i < x + w; i++) {
                over(i, j, colour);
            }
        }
    }

    private void letters(String text, int x, int y, int colour) {
        int at = x;
        for (char c : text.toCharArray()) {
            for (int i = 0; i < columns(c); i++) {
                for (int j = 0; j < 5; j++) {
                    if (isSet(c, i, j)) {
                        over(at + i, y + j, colour);
                    }
                }
            }
            at += columns(c) + 1;
        }
    }

    /** The data, and how the next table is sorted. */
    void tell(List<String[]> lines, int column, boolean down) {
        data = lines;
        sort = column;
        falling = down;
    }

    static int columnWide(int c, int columns, int wide) {
        return c < columns - 1 ? wide / columns : wide - wide / columns * (columns - 1);
    }

    static int columnAt(int c, int columns, int wide, int dir) {
        int x = wide / columns * c;
        return dir == 1 ? wide - x - columnWide(c, columns, wide) : x;
    }

    private void table(int w, int x, int y, int wide, int high, int[] inner) {
        if (data.isEmpty()) {
            return;
        }
        tableLine(w, data.get(0), x, y, wide, kit.styled(w, 0), inner);
        for (int i = 0; 6 * i + 6 < high && kit.shown(w, kit.widget(w, 14) + i) >= 0; i++) {
            int row = kit.shown(w, kit.widget(w, 14) + i);
            int colour = row(w, row, x, y + 6 * i + 6, wide);
            tableLine(w, data.get(row + 1), x, y + 6 * i + 6, wide, colour, inner);
        }
    }

    private void tableLine(int w, String[] line, int x, int y, int wide, int colour, int[] inner) {
        int columns = data.get(0).length;
        int dir = kit.styled(w, 11);
        for (int c = 0; c < columns; c++) {
            int left = x + columnAt(c, columns, wide, dir);
            String part = c < line.length ? line[c] : "";
            boolean sign = line == data.get(0) && c == sort;
            clip = new int[] {inner[0], inner[1], Math.min(inner[2], left + columnWide(c, columns, wide) - 1), inner[3]};
            letters(LettersTest.plainly(part, dir) + (sign ? falling ? "-" : "+" : ""), left, y, colour);
            clip = inner;
        }
    }

    /** Paints one widget that isn't hidden. */
    void paint(int w, int[] seen, int[] inner, String shown, Map<String, Integer> attributes, List<String> titles) {
        int x = kit.widget(w, 4);
        int y = kit.widget(w, 5);
        int wide = kit.widget(w, 6);
        int high = kit.widget(w, 7);
        int ink = kit.styled(w, 0);
        clip = seen;
        fill(Math.max(0, x), Math.max(0, y), Math.min(200, wide), Math.min(200, high), 0);
        for (int j = seen[1]; j < seen[3]; j++) {
            for (int i = seen[0]; i < seen[2]; i++) {
                over(i, j, kit.styled(w, 1));
                if (kit.styled(w, 12) > 0) {
                    int cover = covered(w, i - x, j - y, wide, high);
                    over(i, j, (ink >>> 24) * cover / 16 << 24 | ink & 0xffffff);
                }
                int line = kit.styled(w, 3);
                if (i - x < line || j - y < line || x + wide - i <= line || y + high - j <= line) {
                    over(i, j, kit.styled(w, 2));
                }
            }
        }
        clip = inner;
        int frame = kit.styled(w, 3) + kit.styled(w, 4);
        content(w, x + frame, y + frame, Math.max(0, wide - 2 * frame), Math.max(0, high - 2 * frame), shown, attributes, titles);
        for (int j = seen[1]; j < seen[3] && kit.count(5) == w; j++) {
            for (int i = seen[0]; i < seen[2]; i++) {
                if (i == x || j == y || i == x + wide - 1 || j == y + high - 1) {
                    pixels[j * width + i] ^= 0xffffff;
                }
            }
        }
    }

    private int covered(int w, int i, int j, int wide, int high) {
        int[] lines = lines(shapes[kit.styled(w, 12)]);
        return PaintTest.covered(lines, lines[lines.length - 1], wide, high, i, j);
    }

    /** The lines of a shape's text, four numbers each; how many numbers these are stands last. */
    private static int[] lines(String shape) {
        int[] lines = new int[401];
        int n = 0;
        int[] first = new int[2];
        int[] last = new int[2];
        for (String ring : shape == null ? new String[0] : shape.split("(?=[mlqz])")) {
            String[] told = ring.substring(1).trim().split(" ");
            int[] numbers = new int[told[0].isEmpty() ? 0 : told.length];
            for (int i = 0; i < numbers.length; i++) {
                numbers[i] = Integer.parseInt(told[i]);
            }
            char c = ring.charAt(0);
            int steps = c == 'q' ? 8 : 1;
            for (int k = 1; k <= steps && c != 'm'; k++) {
                for (int axis = 0; axis < 2; axis++) {
                    int to = c == 'z' ? first[axis] : c == 'l' ? numbers[axis] : ((8 - k) * (8 - k) * last[axis]
                        + 2 * k * (8 - k) * numbers[axis] + k * k * numbers[axis + 2]) / 64;
                    lines[n + axis] = n > 0 && k > 1 ? lines[n - 2 + axis] : last[axis];
                    lines[n + 2 + axis] = to;
                }
                n += 4;
            }
            if (c == 'm') {
                first = numbers;
                last = numbers;
            } else if (c != 'z') {
                last = new int[] {numbers[numbers.length - 2], numbers[numbers.length - 1]};
            }
        }
        lines[400] = n;
        return lines;
    }

    private void content(int w, int x, int y, int wide, int high, String shown, Map<String, Integer> attributes, List<String> titles) {
        int ink = kit.styled(w, 0);
        int dir = kit.styled(w, 11);
        int middle = y + Math.max(0, high - 6) / 2;
        switch (kit.widget(w, 0)) {
            case 6:
                List<String> rows = attributes.getOrDefault("wrap", 0) == 1 ? rows(shown, wide) : List.of(shown);
                for (int i = 0; i < rows.size(); i++) {
                    int at = dir == 1 ? x + wide - wide(rows.get(i)) : x;
                    letters(LettersTest.plainly(rows.get(i), dir), at, y + 6 * i, ink);
                }
                break;
            case 7:
                letters(LettersTest.plainly(shown, dir), x + Math.max(0, wide - wide(shown)) / 2, middle, ink);
                break;
            case 8: case 9:
                square(w, dir == 1 ? x + wide - 6 : x, middle, ink);
                letters(LettersTest.plainly(shown, dir), dir == 1 ? x + wide - 7 - wide(shown) : x + 7, middle, ink);
                break;
            case 10: field(w, x, middle, ink); break;
            case 11: slider(w, x, y, wide, high, attributes); break;
            case 12: list(w, x, y, wide, high, attributes.getOrDefault("rows", 0)); break;
            case 14: tabs(w, x, y, wide, titles); break;
            case 16: tree(w, x, y, wide, high); break;
            case 17: table(w, x, y, wide, high, clip); break;
            case 18: picture(attributes.getOrDefault("img", 1), x, y, wide, high); break;
            default: break;
        }
    }

    private List<String> rows(String text, int limit) {
        List<String> rows = new ArrayList<>();
        for (String word : text.trim().split(" +")) {
            int last = rows.size() - 1;
            if (!word.isEmpty() && last >= 0 && wide(rows.get(last) + " " + word) <= limit) {
                rows.set(last, rows.get(last) + " " + word);
            } else if (!word.isEmpty()) {
                rows.add(word);
            }
        }
        return rows;
    }

    private void square(int w, int x, int y, int ink) {
        for (int j = 0; j < 6; j++) {
            for (int i = 0; i < 6; i++) {
                int edges = (i % 5 == 0 ? 1 : 0) + (j % 5 == 0 ? 1 : 0);
                boolean inner = i / 2 == 1 && j / 2 == 1 && (kit.widget(w, 11) & 8) != 0;
                if (edges == 1 || inner || (edges == 2 && kit.widget(w, 0) == 8)) {
                    over(x + i, y + j, ink);
                }
            }
        }
    }

    private int ground(int w) {
        return kit.styled(w, 1) | 0xff000000;
    }

    private void field(int w, int x, int y, int ink) {
        String text = Check.letters(kit, w);
        int caret = kit.field(w, 0);
        int anchor = kit.field(w, 1);
        int view = kit.field(w, 2);
        int at = x;
        for (int i = view; i < text.length(); i++) {
            String sign = text.substring(i, i + 1);
            boolean selected = i >= Math.min(caret, anchor) && i < Math.max(caret, anchor);
            if (selected) {
                fill(at, y, wide(sign), 5, ink);
            }
            letters(sign, at, y, selected ? ground(w) : ink);
            at += wide(sign);
        }
        if (kit.count(5) == w) {
            fill(x + wide(text.substring(view, caret)), y, 1, 6, ink);
        }
    }

    private void slider(int w, int x, int y, int wide, int high, Map<String, Integer> attributes) {
        int least = attributes.getOrDefault("least", 0);
        int most = attributes.getOrDefault("most", 99);
        int cell = kit.widget(w, 12);
        long value = cell < 0 ? least : kit.cell(cell);
        if (high > 0) {
            fill(x, y + (high - 1) / 2, wide, 1, kit.styled(w, 0));
        }
        long room = Math.max(0, wide - 3);
        long at = most <= least ? 0 : Math.max(0, Math.min(room, (wide - 3) * (value - least) / (most - least)));
        fill(kit.styled(w, 11) == 1 ? x + wide - 3 - (int) at : x + (int) at, y, 3, high, kit.styled(w, 0));
    }

    /** The ground of a row: the colour of its letters. */
    private int row(int w, int row, int x, int y, int wide) {
        if (kit.widget(w, 15) != row) {
            return kit.styled(w, 0);
        }
        fill(x, y, wide, 6, kit.styled(w, 0));
        return ground(w);
    }

    private void list(int w, int x, int y, int wide, int high, int rows) {
        for (int i = 0; 6 * i < high && kit.widget(w, 14) + i < rows; i++) {
            int row = kit.widget(w, 14) + i;
            int colour = row(w, row, x, y + 6 * i, wide);
            String number = "" + row;
            letters(number, kit.styled(w, 11) == 1 ? x + wide - wide(number) : x, y + 6 * i, colour);
        }
    }

    private void tabs(int w, int x, int y, int wide, List<String> titles) {
        int at = 0;
        for (int i = 0; i < titles.size(); i++) {
            int part = wide(titles.get(i)) + 4;
            int left = kit.styled(w, 11) == 1 ? x + wide - at - part : x + at;
            letters(LettersTest.plainly(titles.get(i), kit.styled(w, 11)), left + 2, y + 1, kit.styled(w, 0));
            if (kit.widget(w, 15) == i) {
                fill(left, y + 7, part, 1, kit.styled(w, 0));
            }
            at += part;
        }
    }

    /** Of each node: how many are around it, and whether it has children; level by level. */
    static int nodes(String text, int at, int depth, List<Character> signs, List<Integer> depths, List<Boolean> kids) {
        int latest = -1;
        int i = at;
        while (i < text.length()) {
            char c = text.charAt(i);
            i++;
            if (Character.isLetterOrDigit(c)) {
                latest = signs.size();
                signs.add(c);
                depths.add(depth);
                kids.add(false);
            } else if (c == '(' && latest >= 0) {
                int had = signs.size();
                i = nodes(text, i, depth + 1, signs, depths, kids);
                if (signs.size() > had) {
                    kids.set(latest, true);
                }
            } else if (c == ')' && depth > 0) {
                return i;
            }
        }
        return i;
    }

    private void tree(int w, int x, int y, int wide, int high) {
        List<Character> signs = new ArrayList<>();
        List<Integer> depths = new ArrayList<>();
        List<Boolean> kids = new ArrayList<>();
        nodes(Check.letters(kit, w), 0, 0, signs, depths, kids);
        for (int i = 0; 6 * i < high && kit.shown(w, kit.widget(w, 14) + i) >= 0; i++) {
            int place = kit.widget(w, 14) + i;
            int node = kit.shown(w, place);
            int colour = row(w, node, x, y + 6 * i, wide);
            int left = x + 4 * depths.get(node);
            if (kids.get(node)) {
                boolean opened = kit.shown(w, place + 1) == node + 1 && depths.get(node + 1) > depths.get(node);
                letters(opened ? "-" : "+", left, y + 6 * i, colour);
            }
            letters("" + signs.get(node), left + 6, y + 6 * i, colour);
        }
    }

    private boolean has(int n, int x, int y) {
        try {
            kit.lanes(n, x, y);
            return true;
        } catch (ArrayIndexOutOfBoundsException e) {
            return false;
        }
    }

    private void picture(int n, int x, int y, int wide, int high) {
        int w = 1;
        int h = 1;
        while (has(n, w, 0)) {
            w++;
        }
        while (has(n, 0, h)) {
            h++;
        }
        int left = x + Math.max(0, wide - w) / 2;
        int top = y + Math.max(0, high - h) / 2;
        for (int j = Math.max(top, clip[1]); j < Math.min(top + h, clip[3]); j++) {
            for (int i = Math.max(left, clip[0]); i < Math.min(left + w, clip[2]); i++) {
                int own = kit.lanes(n, i - left, j - top);
                int was = pixels[j * width + i];
                int out = 0xff;
                for (int shift = 16; shift >= 0; shift -= 8) {
                    int lane = (own >> shift & 255) + ((was >> shift & 255) * (255 - (own >>> 24)) + 127) / 255;
                    out = out << 8 | Math.min(255, lane);
                }
                pixels[j * width + i] = out;
            }
        }
    }
}
