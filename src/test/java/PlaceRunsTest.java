import java.util.ArrayList;
import java.util.List;
import java.util.Map;

/** Promise 7: what is hidden, least sizes and places of random forms, counted anew by the document's points 5, 11, 12. */
public final class PlaceRunsTest {
    private static final int LINE = 3;
    private static final int PAD = 4;
    private static final int GAP = 5;
    private static final int WIDE = 6;
    private static final int TALL = 7;
    private static final int GROW = 8;
    private static final int ALIGN = 9;
    private static final int HIDE = 10;
    private static final int DIR = 11;

    private final ScreenKit kit;
    private final int width;
    private final int height;
    private final int n;
    private final int[] imageWide;
    private final int[] imageHigh;
    private final List<Map<String, Integer>> attributes;
    private final boolean[] hidden;
    private final int[][] least;
    private final int[][] place;

    private PlaceRunsTest(ScreenKit kit, int width, int height, int[] imageWide, int[] imageHigh) {
        this.kit = kit;
        this.width = width;
        this.height = height;
        this.imageWide = imageWide;
        this.imageHigh = imageHigh;
        n = kit.count(1);
        attributes = Check.attributes(kit);
        hidden = new boolean[n];
        least = new int[n][2];
        place = new int[n][4];
    }

    private int kind(int w) {
        return kit.widget(w, 0);
    }

    private int attribute(int w, String name, int first) {
        return attributes.get(w).getOrDefault(name, first);
    }

    /** The children that are placed. */
    private List<Integer> kids(int w) {
        List<Integer> kids = new ArrayList<>();
        for (int k = w + 1; k < n; k++) {
            if (kit.widget(k, 1) == w && !hidden[k] && kind(k) != 15) {
                kids.add(k);
            }
        }
        return kids;
    }

    private void hide() {
        for (int w = 0; w < n; w++) {
            int up = kit.widget(w, 1);
            boolean by = kit.styled(w, HIDE) == 1 || (up >= 0 && hidden[up]);
            boolean page = up >= 0 && kind(up) == 14 && kit.widget(up, 15) != kit.widget(w, 3);
            int cell = kit.widget(w, 12);
            hidden[w] = by || page || (kind(w) == 15 && (cell < 0 || kit.cell(cell) == 0));
        }
    }

    private static int wide(String text) {
        int sum = 0;
        for (char c : text.toCharArray()) {
            sum += 3 + c % 3;
        }
        return sum;
    }

    /** How many rows a text has in a width. */
    private static int rows(String text, int width) {
        int rows = 0;
        String row = "";
        for (String word : text.trim().split(" +")) {
            if (word.isEmpty()) {
                continue;
            }
            String longer = row.isEmpty() ? word : row + " " + word;
            if (rows > 0 && wide(longer) <= width) {
                row = longer;
            } else {
                row = word;
                rows++;
            }
        }
        return rows;
    }

    private int[] content(int w) {
        String text = Check.letters(kit, w);
        switch (kind(w)) {
            case 6:
                if (attribute(w, "wrap", 0) == 1) {
                    int widest = 0;
                    for (String word : text.split(" ")) {
                        widest = Math.max(widest, wide(word));
                    }
                    return new int[] {widest, 6 * rows(text, widest)};
                }
                return new int[] {wide(text), 6};
            case 7: return new int[] {wide(text), 6};
            case 8: case 9: return new int[] {7 + wide(text), 6};
            case 10: return new int[] {5 * attribute(w, "wide", 8) + 1, 6};
            case 11: return new int[] {20, 6};
            case 12: return new int[] {30, 6 * Math.min(4, attribute(w, "rows", 0))};
            case 16: return new int[] {30, 6 * Math.min(4, text.replaceAll("[^a-zA-Z0-9]", "").length())};
            case 17: return new int[] {40, 6 + 6 * Math.max(0, Math.min(4, kit.count(11) - 1))};
            case 18: return new int[] {imageWide[attribute(w, "img", 1)], imageHigh[attribute(w, "img", 1)]};
            case 5: return new int[] {12, 12};
            case 13: return new int[2];
            default: return boxContent(w, text);
        }
    }

    private int sum(List<Integer> kids, int axis, int gap) {
        int sum = gap * Math.max(0, kids.size() - 1);
        for (int k : kids) {
            sum += least[k][axis];
        }
        return sum;
    }

    private int most(List<Integer> kids, int axis) {
        int most = 0;
        for (int k : kids) {
            most = Math.max(most, least[k][axis]);
        }
        return most;
    }

    private int[] boxContent(int w, String text) {
        List<Integer> kids = kids(w);
        int gap = kit.styled(w, GAP);
        switch (kind(w)) {
            case 0: return new int[] {sum(kids, 0, gap), most(kids, 1)};
            case 1: return new int[] {most(kids, 0), sum(kids, 1, gap)};
            case 2: return new int[] {total(spans(w, 0), gap), total(spans(w, 1), gap)};
            case 4: return flow(w, kids, gap);
            case 14:
                int titles = 0;
                for (int k = w + 1; k < n; k++) {
                    titles += kit.widget(k, 1) == w ? wide(Check.letters(kit, k)) + 4 : 0;
                }
                return new int[] {Math.max(titles, most(kids, 0)), 8 + most(kids, 1)};
            default: return new int[] {most(kids, 0), most(kids, 1)};
        }
    }

    /** A grid's columns (0) or rows (1). */
    private int[] spans(int w, int axis) {
        List<Integer> kids = kids(w);
        int cols = attribute(w, "cols", 2);
        int[] spans = new int[axis == 0 ? cols : (kids.size() + cols - 1) / cols];
        for (int i = 0; i < kids.size(); i++) {
            int at = axis == 0 ? i % cols : i / cols;
            spans[at] = Math.max(spans[at], least[kids.get(i)][axis]);
        }
        return spans;
    }

    private static int total(int[] spans, int gap) {
        int sum = gap * Math.max(0, spans.length - 1);
        for (int s : spans) {
            sum += s;
        }
        return sum;
    }

    /** A flow's rows for a width. */
    private List<List<Integer>> broken(List<Integer> kids, int gap, int width) {
        List<List<Integer>> rows = new ArrayList<>();
        for (int k : kids) {
            List<Integer> longer = new ArrayList<>();
            if (!rows.isEmpty()) {
                longer.addAll(rows.get(rows.size() - 1));
            }
            longer.add(k);
            if (!rows.isEmpty() && sum(longer, 0, gap) <= width) {
                rows.set(rows.size() - 1, longer);
            } else {
                rows.add(new ArrayList<>(List.of(k)));
            }
        }
        return rows;
    }

    private int[] flow(int w, List<Integer> kids, int gap) {
        int limit = kit.styled(w, WIDE) - 2 * (kit.styled(w, LINE) + kit.styled(w, PAD));
        if (kit.styled(w, WIDE) == 0 || sum(kids, 0, gap) <= limit) {
            return new int[] {sum(kids, 0, gap), most(kids, 1)};
        }
        int wide = Math.max(limit, most(kids, 0));
        List<List<Integer>> rows = broken(kids, gap, wide);
        int high = gap * Math.max(0, rows.size() - 1);
        for (List<Integer> row : rows) {
            high += most(row, 1);
        }
        return new int[] {wide, high};
    }

    private void measure() {
        for (int w = n - 1; w >= 0; w--) {
            int frame = kit.styled(w, LINE) + kit.styled(w, PAD);
            if (!hidden[w]) {
                int[] content = content(w);
                least[w][0] = Math.max(kit.styled(w, WIDE), 2 * frame + content[0]);
                least[w][1] = Math.max(kit.styled(w, TALL), 2 * frame + content[1]);
            }
        }
    }

    private void stand(int w, int k, int x, int y, int wide, int high) {
        int frame = kit.styled(w, LINE) + kit.styled(w, PAD);
        int inner = Math.max(0, place[w][2] - 2 * frame);
        int at = kit.styled(w, DIR) == 1 ? inner - x - wide : x;
        place[k] = new int[] {place[w][0] + frame + at, place[w][1] + frame + y, wide, high};
    }

    private static int rest(int align, int rest) {
        return align == 1 ? Math.max(0, rest) / 2 : align == 2 ? Math.max(0, rest) : 0;
    }

    private void standIn(int w, int k, int x, int y, int wide, int high) {
        int align = kit.styled(w, ALIGN);
        int kw = align == 3 ? wide : least[k][0];
        int kh = align == 3 ? high : least[k][1];
        stand(w, k, x + rest(align, wide - kw), y + rest(align, high - kh), kw, kh);
    }

    private void line(int w, List<Integer> kids, int axis, int[] room) {
        int gap = kit.styled(w, GAP);
        int align = kit.styled(w, ALIGN);
        int left = Math.max(0, room[axis] - sum(kids, axis, gap));
        int grows = 0;
        for (int k : kids) {
            grows += kit.styled(k, GROW);
        }
        int[] sizes = new int[kids.size()];
        int given = 0;
        for (int i = 0; i < sizes.length; i++) {
            int more = grows == 0 ? 0 : left * kit.styled(kids.get(i), GROW) / grows;
            sizes[i] = least[kids.get(i)][axis] + more;
            given += more;
        }
        for (int i = 0; i < sizes.length && grows > 0 && given < left; i++) {
            if (kit.styled(kids.get(i), GROW) != 0) {
                sizes[i]++;
                given++;
            }
        }
        int at = 0;
        for (int i = 0; i < sizes.length; i++) {
            int k = kids.get(i);
            int across = align == 3 ? room[1 - axis] : least[k][1 - axis];
            int off = rest(align, room[1 - axis] - across);
            if (axis == 0) {
                stand(w, k, at, off, sizes[i], across);
            } else {
                stand(w, k, off, at, across, sizes[i]);
            }
            at += sizes[i] + gap;
        }
    }

    private void spread(int[] spans, int room, int gap) {
        int left = Math.max(0, room - total(spans, gap));
        for (int i = 0; i < spans.length; i++) {
            spans[i] += left / spans.length + (i < left % spans.length ? 1 : 0);
        }
    }

    private void grid(int w, List<Integer> kids, int[] room) {
        int gap = kit.styled(w, GAP);
        int[] columns = spans(w, 0);
        int[] rows = spans(w, 1);
        spread(columns, room[0], gap);
        spread(rows, room[1], gap);
        for (int i = 0; i < kids.size(); i++) {
            int x = 0;
            int y = 0;
            for (int c = 0; c < i % columns.length; c++) {
                x += columns[c] + gap;
            }
            for (int r = 0; r < i / columns.length; r++) {
                y += rows[r] + gap;
            }
            standIn(w, kids.get(i), x, y, columns[i % columns.length], rows[i / columns.length]);
        }
    }

    private void placeKids(int w) {
        int frame = kit.styled(w, LINE) + kit.styled(w, PAD);
        int[] room = {Math.max(0, place[w][2] - 2 * frame), Math.max(0, place[w][3] - 2 * frame)};
        List<Integer> kids = kids(w);
        int gap = kit.styled(w, GAP);
        switch (kind(w)) {
            case 0: line(w, kids, 0, room); break;
            case 1: line(w, kids, 1, room); break;
            case 2: grid(w, kids, room); break;
            case 4:
                int y = 0;
                for (List<Integer> row : broken(kids, gap, room[0])) {
                    int x = 0;
                    for (int k : row) {
                        stand(w, k, x, y, least[k][0], least[k][1]);
                        x += least[k][0] + gap;
                    }
                    y += most(row, 1) + gap;
                }
                break;
            case 5:
                for (int k : kids) {
                    stand(w, k, 0, -kit.widget(w, 14), Math.max(room[0], least[k][0]), Math.max(room[1], least[k][1]));
                }
                break;
            case 14:
                for (int k : kids) {
                    stand(w, k, 0, 8, room[0], Math.max(0, room[1] - 8));
                }
                break;
            default:
                for (int k : kids) {
                    standIn(w, k, 0, 0, room[0], room[1]);
                }
                break;
        }
    }

    private void compare() {
        hide();
        measure();
        for (int w = 0; w < n; w++) {
            if (kind(w) == 15 && !hidden[w]) {
                int wide = Math.min(width, least[w][0]);
                int high = Math.min(height, least[w][1]);
                place[w] = new int[] {(width - wide) / 2, (height - high) / 2, wide, high};
            } else if (w == 0 && !hidden[w]) {
                place[w] = new int[] {0, 0, width, height};
            }
            if (!hidden[w]) {
                placeKids(w);
            }
        }
        for (int w = 0; w < n; w++) {
            String what = " of widget " + w;
            Check.same("hidden" + what, kit.widget(w, 10), hidden[w] ? 1 : 0);
            Check.same("least" + what, Check.least(kit, w), least[w][0] + " " + least[w][1]);
            Check.same("place" + what, Check.place(kit, w), place[w][0] + " " + place[w][1] + " " + place[w][2] + " " + place[w][3]);
        }
    }

    private static void run(long seed) {
        RandomRunsTest random = new RandomRunsTest(seed);
        int width = 16 + random.up(81);
        int height = 16 + random.up(49);
        ScreenKit kit = new ScreenKit(width, height);
        int[] imageWide = {1, 1, 1, 1, 1};
        int[] imageHigh = {1, 1, 1, 1, 1};
        Check.tell(kit, "x\n".repeat(random.up(8))).data();
        Check.form(kit, random.widget(0));
        for (int n = 0; n < 12 && Check.wrong == 0; n++) {
            int i = 1 + random.up(4);
            imageWide[i] = 1 + random.up(20);
            imageHigh[i] = 1 + random.up(20);
            kit.image(i, imageWide[i], imageHigh[i]);
            Check.style(kit, random.rules());
            for (int c = 0; c < 4; c++) {
                kit.put(c, random.up(5) - 1);
            }
            kit.point(random.up(width), random.up(height));
            kit.wheel(random.up(9) - 4);
            kit.down();
            kit.key(1 + random.up(15), false);
            kit.able(random.up(kit.count(1)), random.once(2));
            new PlaceRunsTest(kit, width, height, imageWide, imageHigh).compare();
            if (Check.wrong > 0) {
                System.out.println(Check.written(kit));
            }
            kit.up();
        }
    }

    public static void main(String[] args) {
        int runs = args.length > 0 ? Integer.parseInt(args[0]) : 300;
        long first = args.length > 1 ? Long.parseLong(args[1]) : 1;
        for (long seed = first; seed < first + runs && Check.wrong == 0; seed++) {
            run(seed);
            if (Check.wrong > 0) {
                System.out.println("in the run of seed " + seed);
            }
        }
        Check.end("PlaceRunsTest");
    }
}
