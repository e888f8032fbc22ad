import java.util.ArrayList;
import java.util.HashMap;
import java.util.List;
import java.util.Map;

/**
 * Promises 25 and 26: in random runs how many pixels are dirty and what is painted, counted and painted anew by the
 * document's words from what can be asked.
 */
public final class ScreenRunsTest {
    /** What was painted latest of one widget: all that counts for CHANGED, and where it was visible. */
    private static final class Painted {
        String look = "";
        int[] seen = {0, 0, 0, 0};
        // of a table
        int sort = -1;
        boolean falling;
        String filter = "";
    }

    private final RandomRunsTest random;
    private final int width;
    private final int height;
    private final ScreenKit kit;
    private List<Painted> widgets = new ArrayList<>();
    private final List<Painted> newest = new ArrayList<>();
    private List<Painted> paintedDialogs = new ArrayList<>();
    private final String[] shapes = new String[9];
    private final Map<Character, Integer> glyphColumns = new HashMap<>();
    private final Map<Character, Long> glyphBits = new HashMap<>();
    private Map<String, String> tongue = new HashMap<>();
    private List<String[]> data = new ArrayList<>();
    private boolean all = true;
    private boolean[] dirty;
    private int pointerX;
    private int pointerY;
    // whether a table may be sorted by a press that can't be followed from outside
    private boolean lost;

    private ScreenRunsTest(long seed) {
        random = new RandomRunsTest(seed);
        width = 16 + random.up(81);
        height = 16 + random.up(49);
        kit = new ScreenKit(width, height);
        dirty = new boolean[width * height];
    }

    private String form() {
        random.widgets = 0;
        random.names = 0;
        return random.widget(0);
    }

    private void readForm() {
        if (Check.form(kit, form()) > 0) {
            widgets = new ArrayList<>();
            for (int i = 0; i < kit.count(1); i++) {
                widgets.add(new Painted());
            }
            newest.clear();
            all = true;
        }
    }

    private void readTongue(String text) {
        if (Check.tell(kit, text).tongue() >= 0) {
            tongue = new HashMap<>();
            for (String line : text.split("\n")) {
                if (!line.isEmpty()) {
                    tongue.put(line.substring(0, line.indexOf('=')), line.substring(line.indexOf('=') + 1));
                }
            }
        }
    }

    private void readData(String text) {
        if (Check.tell(kit, text).data() >= 0) {
            data = new ArrayList<>();
            for (String line : text.split("\n")) {
                if (!line.isEmpty()) {
                    data.add(line.split(",", -1));
                }
            }
        }
    }

    private void filter(int w) {
        String text = random.once(2) ? "" : random.once(2) ? "a" : "1";
        if (Check.tell(kit, text).filter(w) >= 0) {
            widgets.get(w).filter = text;
        }
    }

    private void down() {
        int w = kit.down();
        if (w < 0 || kit.widget(w, 0) != 17) {
            return;
        }
        if (kit.count(6) != w || kit.widget(w, 10) == 1) {
            lost = true;
            return;
        }
        int[] content = PlainPainter.content(kit, w);
        int columns = data.isEmpty() ? 0 : data.get(0).length;
        boolean head = pointerY >= content[1] && pointerY < Math.min(content[3], content[1] + 6);
        Painted p = widgets.get(w);
        for (int c = 0; c < columns && head; c++) {
            int wide = content[2] - content[0];
            int x = content[0] + PlainPainter.columnAt(c, columns, wide, kit.styled(w, 11));
            if (pointerX >= x && pointerX < x + PlainPainter.columnWide(c, columns, wide)) {
                boolean was = p.sort == c;
                p.sort = was && p.falling ? -1 : c;
                p.falling = was && !p.falling;
            }
        }
    }

    private static int compare(String a, String b) {
        boolean x = a.matches("[0-9]{1,7}");
        boolean y = b.matches("[0-9]{1,7}");
        if (x && y) {
            return Integer.compare(Integer.parseInt(a), Integer.parseInt(b));
        }
        return x ? -1 : y ? 1 : a.compareTo(b);
    }

    private static String part(String[] line, int c) {
        return c < line.length ? line[c] : "";
    }

    /** The rows of a table as they stand. */
    private String rows(Painted p) {
        List<Integer> rows = new ArrayList<>();
        for (int i = 1; i < data.size(); i++) {
            boolean there = false;
            for (String part : data.get(i)) {
                there |= part.contains(p.filter);
            }
            if (there) {
                rows.add(i - 1);
            }
        }
        if (p.sort >= 0 && !data.isEmpty() && p.sort < data.get(0).length) {
            int way = p.falling ? -1 : 1;
            rows.sort((a, b) -> way * compare(part(data.get(a + 1), p.sort), part(data.get(b + 1), p.sort)));
        }
        return rows.toString().replaceAll("[\\[\\],]", "");
    }

    private void insert(int w, int at) {
        random.widgets = 25;
        random.names = 100 + random.up(50);
        int old = kit.count(1);
        int n = Check.tell(kit, random.widget(4)).insert(w, at);
        for (int i = 0; n >= 0 && i < kit.count(1) - old; i++) {
            widgets.add(n + i, new Painted());
        }
    }

    private void remove(int w) {
        int old = kit.count(1);
        int left = kit.remove(w);
        for (int i = 0; left > 0 && i < old - left; i++) {
            Painted gone = widgets.remove(w);
            mark(gone.seen);
            newest.remove(gone);
        }
    }

    private void mark(int[] r) {
        for (int y = r[1]; y < r[3]; y++) {
            for (int x = r[0]; x < r[2]; x++) {
                dirty[y * width + x] = true;
            }
        }
    }

    /** One random call. */
    private void call() {
        int w = random.up(Math.max(1, kit.count(1)));
        int a = 1 + random.up(4);
        int x = random.up(width + 4) - 2;
        int y = random.up(height + 4) - 2;
        boolean shift = random.once(2);
        switch (random.up(32)) {
            case 0: if (random.once(4)) readForm(); break;
            case 1: Check.style(kit, random.rules()); break;
            case 2:
                String points = random.points();
                if (Check.tell(kit, points).shape(a) >= 0) {
                    shapes[a] = points;
                }
                break;
            case 3: Check.tell(kit, random.text(12).replace("\"", "")).text(w); break;
            case 4: readTongue(random.told()); break;
            case 5: insert(w, random.up(3)); break;
            case 6: remove(w); break;
            case 7: if (random.once(5)) tellGlyph("abcABC019 "); break;
            case 8: case 9: kit.put(random.up(4), random.up(8) - 1); break;
            case 10: kit.able(w, shift); break;
            case 11: case 12: case 13: case 14:
                pointerX = x;
                pointerY = y;
                kit.point(x, y);
                break;
            case 15: case 16: case 17: down(); break;
            case 18: case 19: kit.up(); break;
            case 20: kit.wheel(random.up(9) - 4); break;
            case 21: case 22: kit.key(1 + random.up(15), shift); break;
            case 23: kit.key(32 + random.up(96), shift); break;
            case 24: kit.focus(w); break;
            case 25: kit.move(w, 3 + random.up(6), random.up(30), 1 + random.up(9)); break;
            case 26: kit.tick(1 + random.up(5)); break;
            case 27: kit.image(a, 1 + random.up(9), 1 + random.up(9)); break;
            case 30: readData(random.lines()); break;
            case 31: filter(w); break;
            case 28: kit.dot(a, random.up(4), random.up(4), random.up(1 << 30)); break;
            default: kit.scale(a, 1 + random.up(9), 1 + random.up(9)); break;
        }
        raise();
    }

    private void tellGlyph(String signs) {
        char c = signs.charAt(random.up(signs.length()));
        int columns = random.up(9);
        long bits = (long) random.up(1 << 30) * random.up(1 << 30);
        if (kit.glyph(c, columns, bits) == 1) {
            glyphColumns.put(c, columns);
            glyphBits.put(c, bits);
            all = true;
        }
    }

    private boolean isOpen(int w) {
        return kit.widget(w, 0) == 15 && kit.widget(w, 10) == 0;
    }

    private void raise() {
        List<Painted> open = new ArrayList<>();
        for (int w = 0; w < widgets.size(); w++) {
            if (isOpen(w)) {
                open.add(widgets.get(w));
            }
        }
        newest.retainAll(open);
        for (Painted p : open) {
            if (!newest.contains(p)) {
                newest.add(p);
            }
        }
    }

    private String shownText(int w) {
        String text = Check.letters(kit, w);
        int kind = kit.widget(w, 0);
        int parent = kit.widget(w, 1);
        boolean told = (kind >= 6 && kind <= 9) || (parent >= 0 && kit.widget(parent, 0) == 14);
        boolean there = told && text.startsWith("@") && tongue.containsKey(text.substring(1));
        return there ? tongue.get(text.substring(1)) : text;
    }

    private String image(int n) {
        StringBuilder b = new StringBuilder();
        for (int y = 0; y < 32; y++) {
            try {
                for (int x = 0; x < 32; x++) {
                    b.append(kit.lanes(n, x, y)).append(' ');
                }
            } catch (ArrayIndexOutOfBoundsException e) {
                b.append('/');
            }
        }
        return b.toString();
    }

    /** All of a widget that the document names for CHANGED. */
    private String look(int w, int[] seen, int image) {
        int kind = kit.widget(w, 0);
        StringBuilder b = new StringBuilder();
        for (int what = 4; what <= 7; what++) {
            b.append(kit.widget(w, what)).append(' ');
        }
        b.append(seen[0]).append(' ').append(seen[1]).append(' ').append(seen[2]).append(' ').append(seen[3]);
        b.append(' ').append(kit.widget(w, 10));
        int[] properties = {0, 1, 2, 3, 4, 11, 12};
        for (int p : properties) {
            b.append(' ').append(kit.styled(w, p));
        }
        b.append(' ').append(kit.styled(w, 12) > 0 ? shapes[kit.styled(w, 12)] : "");
        b.append(' ').append(kit.widget(w, 11) & 12).append(' ').append(kind == 10 ? Check.letters(kit, w) : shownText(w));
        if (kind == 11) {
            b.append(' ').append(kit.widget(w, 12) >= 0 ? kit.cell(kit.widget(w, 12)) : 0);
        }
        if (kind == 10) {
            b.append(' ').append(kit.field(w, 0)).append(' ').append(kit.field(w, 1)).append(' ').append(kit.field(w, 2));
        }
        if (kind == 12 || kind == 14 || kind == 16) {
            b.append(' ').append(kit.widget(w, 15)).append(' ').append(kit.widget(w, 14)).append(' ').append(Check.shown(kit, w));
        }
        if (kind == 17) {
            Painted p = widgets.get(w);
            Check.same("rows", Check.shown(kit, w), rows(p));
            b.append(' ').append(kit.widget(w, 15)).append(' ').append(kit.widget(w, 14)).append(' ').append(p.sort).append(p.falling)
                .append(p.filter);
            for (String[] line : data) {
                b.append('/').append(String.join(",", line));
            }
        }
        for (int k = 0; kind == 14 && k < kit.count(1); k++) {
            b.append(kit.widget(k, 1) == w ? "|" + shownText(k) : "");
        }
        return b.append(kind == 18 ? image(image) : "").toString();
    }

    /** Paints, and compares how many pixels that were. */
    private void paint() {
        int n = widgets.size();
        int[][][] visible = PlainPainter.visible(kit, width, height);
        int[][] seen = visible[0];
        List<Map<String, Integer>> attributes = Check.attributes(kit);
        for (int w = 0; w < n; w++) {
            Painted p = widgets.get(w);
            String look = look(w, seen[w], attributes.get(w).getOrDefault("img", 1));
            if (!look.equals(p.look)) {
                mark(p.seen);
                mark(seen[w]);
            }
            p.look = look;
            p.seen = seen[w];
        }
        if (!newest.equals(paintedDialogs)) {
            for (Painted p : newest) {
                mark(p.seen);
            }
        }
        paintedDialogs = new ArrayList<>(newest);
        int due = 0;
        for (boolean d : dirty) {
            due += d || all ? 1 : 0;
        }
        Check.same("dirty pixels", kit.paint(), due);
        all = false;
        dirty = new boolean[width * height];
        compare(seen, visible[1], attributes);
    }

    /** The dialog in which a widget is, the nearest; null in none. */
    private Painted home(int w) {
        int up = w;
        while (up >= 0 && kit.widget(up, 0) != 15) {
            up = kit.widget(up, 1);
        }
        return up < 0 ? null : widgets.get(up);
    }

    /** Compares all pixels with those that are painted plainly. */
    private void compare(int[][] seen, int[][] inner, List<Map<String, Integer>> attributes) {
        PlainPainter plain = new PlainPainter(kit, width, height, glyphColumns, glyphBits, shapes);
        List<Painted> order = new ArrayList<>(newest);
        order.add(0, null);
        for (Painted dialog : order) {
            for (int w = 0; w < widgets.size(); w++) {
                if (kit.widget(w, 10) == 0 && home(w) == dialog) {
                    List<String> titles = new ArrayList<>();
                    for (int k = 0; k < widgets.size(); k++) {
                        if (kit.widget(k, 1) == w) {
                            titles.add(shownText(k));
                        }
                    }
                    plain.tell(data, widgets.get(w).sort, widgets.get(w).falling);
                    plain.paint(w, seen[w], inner[w], shownText(w), attributes.get(w), titles);
                }
            }
        }
        for (int i = 0; i < width * height && Check.wrong == 0; i++) {
            Check.same("pixel " + i % width + ", " + i / width, kit.pixel(i % width, i / width), plain.pixel(i));
        }
    }

    private void run(int calls) {
        readForm();
        Check.style(kit, random.rules());
        raise();
        for (int n = 0; n < calls && Check.wrong == 0 && !lost; n++) {
            call();
            if (random.once(3) && !lost) {
                paint();
            }
        }
    }

    public static void main(String[] args) {
        int runs = args.length > 0 ? Integer.parseInt(args[0]) : 150;
        long first = args.length > 1 ? Long.parseLong(args[1]) : 1;
        for (long seed = first; seed < first + runs && Check.wrong == 0; seed++) {
            new ScreenRunsTest(seed).run(150);
            if (Check.wrong > 0) {
                System.out.println("in the run of seed " + seed);
            }
        }
        Check.end("ScreenRunsTest");
    }
}
