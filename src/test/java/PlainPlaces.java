import java.util.ArrayList;
import java.util.List;

/** Values, least sizes and places of the second, plain kit, always counted as a whole: the document's points 2, 5, 11, 12. */
final class PlainPlaces {
    private static final int GAP = 5;
    private static final int WIDE = 6;
    private static final int TALL = 7;
    private static final int GROW = 8;
    private static final int ALIGN = 9;
    private static final int HIDE = 10;
    private static final int DIR = 11;
    private static final int[] FIRST = {0xff000000, 0, 0, 0, 0, 0, 0, 0, 0, 3, 0, 0, 0};

    private final PlainKit kit;

    PlainPlaces(PlainKit kit) {
        this.kit = kit;
    }

    void count() {
        for (PlainWidget w : kit.all) {
            countValues(w);
            w.hidden = isHidden(w);
            w.home = w.is("dialog") ? w : w.parent == null ? null : w.parent.home;
            w.place = new int[4];
            w.content = new int[] {w.frame(), w.frame(), 0, 0};
            w.seen = new int[4];
            w.inner = new int[4];
        }
        for (int i = kit.all.size() - 1; i >= 0; i--) {
            countLeast(kit.all.get(i));
        }
        for (PlainWidget w : kit.all) {
            int[] screen = {0, 0, kit.width, kit.height};
            if (!w.hidden && w.is("dialog")) {
                int wide = Math.min(kit.width, w.least[0]);
                int high = Math.min(kit.height, w.least[1]);
                place(w, (kit.width - wide) / 2, (kit.height - high) / 2, wide, high, screen);
            } else if (!w.hidden && w.parent == null) {
                place(w, 0, 0, kit.width, kit.height, screen);
            }
        }
    }

    // ---- values ----

    private void countValues(PlainWidget w) {
        int[] weights = new int[13];
        w.style = FIRST.clone();
        w.rule = new int[13];
        java.util.Arrays.fill(w.rule, -1);
        if (w.parent != null) {
            w.style[0] = w.parent.style[0];
            w.style[DIR] = w.parent.style[DIR];
        }
        int number = 0;
        for (PlainReader.Rule rule : kit.rules) {
            int weight = -1;
            for (PlainReader.Selector s : rule.selectors()) {
                weight = fits(s, s.compounds().size() - 1, w) ? Math.max(weight, s.weight()) : weight;
            }
            for (PlainReader.Declaration d : rule.declarations()) {
                if (weight >= weights[d.property()]) {
                    weights[d.property()] = weight;
                    w.style[d.property()] = d.value();
                    w.rule[d.property()] = number;
                }
                number++;
            }
        }
        w.moved.forEach((p, v) -> {
            w.style[p] = v;
            w.rule[p] = -1;
        });
    }

    private boolean fits(PlainReader.Selector s, int last, PlainWidget w) {
        if (!fits(s.compounds().get(last), w)) {
            return false;
        }
        boolean parent = last > 0 && s.between().charAt(last - 1) == '>';
        boolean good = last == 0;
        for (PlainWidget up = w.parent; up != null && !good; up = parent ? null : up.parent) {
            good = fits(s, last - 1, up);
        }
        return good;
    }

    private boolean fits(PlainReader.Compound c, PlainWidget w) {
        boolean fits = c.kind().isEmpty() || w.is(c.kind());
        for (String mark : c.marks()) {
            String word = mark.substring(1);
            switch (mark.charAt(0)) {
                case '#': fits &= w.name.equals(word); break;
                case '.': fits &= w.classes.contains(word); break;
                default: fits &= (kit.states(w) >> PlainReader.STATES.indexOf(word) & 1) == 1; break;
            }
        }
        return fits;
    }

    private boolean isHidden(PlainWidget w) {
        boolean around = w.parent != null && w.parent.hidden;
        boolean page = w.isPage() && kit.selected(w.parent) != w.parent.kids.indexOf(w);
        boolean closed = w.is("dialog") && (w.bind() < 0 || kit.cells[w.bind()] == 0);
        return around || page || closed || w.style[HIDE] == 1;
    }

    // ---- least sizes ----

    private void countLeast(PlainWidget w) {
        int[] content = w.isBox() ? boxContent(w) : content(w);
        w.least = new int[] {Math.max(w.style[WIDE], 2 * w.frame() + content[0]), Math.max(w.style[TALL], 2 * w.frame() + content[1])};
        if (w.hidden) {
            w.least = new int[2];
        }
    }

    private int[] content(PlainWidget w) {
        String text = kit.shown(w);
        int wide = kit.letters.wide(text);
        switch (w.kind) {
            case "label":
                if (w.told("wrap", 0) == 1) {
                    int widest = PlainLetters.words(text).stream().mapToInt(kit.letters::wide).max().orElse(0);
                    return new int[] {widest, 6 * kit.letters.broken(text, widest).size()};
                }
                return new int[] {wide, 6};
            case "button": return new int[] {wide, 6};
            case "check": case "radio": return new int[] {7 + wide, 6};
            case "field": return new int[] {5 * w.told("wide", 8) + 1, 6};
            case "slider": return new int[] {20, 6};
            case "list": return new int[] {30, 6 * Math.min(4, w.told("rows", 0))};
            case "tree": return new int[] {30, 6 * Math.min(4, w.nodes().size())};
            case "table": return new int[] {40, 6 + 6 * Math.min(4, Math.max(0, kit.data.size() - 1))};
            case "picture":
                int[][] image = kit.images.get(w.told("img", 1));
                return new int[] {image[0].length, image.length};
            default: return new int[2];
        }
    }

    private int[] boxContent(PlainWidget w) {
        List<PlainWidget> kids = w.placed();
        int[] widest = {widest(kids, 0), widest(kids, 1)};
        int gap = w.style[GAP];
        switch (w.kind) {
            case "row": return new int[] {line(kids, 0, gap), widest[1]};
            case "col": return new int[] {widest[0], line(kids, 1, gap)};
            case "grid": return new int[] {sum(columns(w, kids), gap), sum(rows(w, kids), gap)};
            case "flow":
                int limit = w.style[WIDE] - 2 * w.frame();
                if (w.style[WIDE] == 0 || line(kids, 0, gap) <= limit) {
                    return new int[] {line(kids, 0, gap), widest[1]};
                }
                List<Integer> heights = new ArrayList<>();
                flow(kids, Math.max(limit, widest[0]), gap).forEach(row -> heights.add(widest(row, 1)));
                return new int[] {Math.max(limit, widest[0]), sum(heights, gap)};
            case "scroll": return new int[] {12, 12};
            case "tabs":
                int titles = w.kids.stream().mapToInt(this::title).sum();
                return new int[] {Math.max(titles, widest[0]), 8 + widest[1]};
            default: return widest;
        }
    }

    /** How wide a page's part of the header is. */
    int title(PlainWidget page) {
        return kit.letters.wide(kit.shown(page)) + 4;
    }

    private static int widest(List<PlainWidget> kids, int axis) {
        return kids.stream().mapToInt(kid -> kid.least[axis]).max().orElse(0);
    }

    private static int sum(List<Integer> sizes, int gap) {
        return sizes.stream().mapToInt(size -> size).sum() + gap * Math.max(0, sizes.size() - 1);
    }

    private static int line(List<PlainWidget> kids, int axis, int gap) {
        return sum(kids.stream().map(kid -> kid.least[axis]).toList(), gap);
    }

    private static List<Integer> columns(PlainWidget w, List<PlainWidget> kids) {
        List<Integer> wide = new ArrayList<>();
        int cols = w.told("cols", 2);
        for (int c = 0; c < cols; c++) {
            int column = c;
            wide.add(widest(kids.stream().filter(kid -> kids.indexOf(kid) % cols == column).toList(), 0));
        }
        return wide;
    }

    private static List<Integer> rows(PlainWidget w, List<PlainWidget> kids) {
        List<Integer> high = new ArrayList<>();
        int cols = w.told("cols", 2);
        for (int i = 0; i < kids.size(); i += cols) {
            high.add(widest(kids.subList(i, Math.min(kids.size(), i + cols)), 1));
        }
        return high;
    }

    private static List<List<PlainWidget>> flow(List<PlainWidget> kids, int limit, int gap) {
        List<List<PlainWidget>> rows = new ArrayList<>();
        for (PlainWidget kid : kids) {
            List<PlainWidget> longer = new ArrayList<>(rows.isEmpty() ? List.of() : rows.get(rows.size() - 1));
            longer.add(kid);
            if (longer.size() > 1 && line(longer, 0, gap) <= limit) {
                rows.set(rows.size() - 1, longer);
            } else {
                rows.add(List.of(kid));
            }
        }
        return rows;
    }

    // ---- places ----

    private static int[] cut(int[] a, int x, int y, int wide, int high) {
        int[] c = {Math.max(a[0], x), Math.max(a[1], y), Math.min(a[2], x + wide), Math.min(a[3], y + high)};
        return c[0] < c[2] && c[1] < c[3] ? c : new int[4];
    }

    private void place(PlainWidget w, int x, int y, int wide, int high, int[] around) {
        int frame = w.frame();
        w.place = new int[] {x, y, wide, high};
        w.content = new int[] {x + frame, y + frame, Math.max(0, wide - 2 * frame), Math.max(0, high - 2 * frame)};
        w.seen = cut(around, x, y, wide, high);
        w.inner = cut(around, w.content[0], w.content[1], w.content[2], w.content[3]);
        placeKids(w, w.placed(), w.content[2], w.content[3]);
    }

    /** Puts a child into the content, turned with dir 1. */
    private void stand(PlainWidget box, PlainWidget kid, int x, int y, int wide, int high) {
        int turned = box.style[DIR] == 1 ? box.content[2] - x - wide : x;
        place(kid, box.content[0] + turned, box.content[1] + y, wide, high, box.inner);
    }

    /** Where something of this least size begins, and its size, in a whole one by align. */
    private static int[] aligned(int align, int whole, int least) {
        int rest = Math.max(0, whole - least);
        switch (align) {
            case 0: return new int[] {0, least};
            case 1: return new int[] {rest / 2, least};
            case 2: return new int[] {rest, least};
            default: return new int[] {0, whole};
        }
    }

    private void standIn(PlainWidget box, PlainWidget kid, int x, int y, int wide, int high) {
        int[] across = aligned(box.style[ALIGN], wide, kid.least[0]);
        int[] down = aligned(box.style[ALIGN], high, kid.least[1]);
        stand(box, kid, x + across[0], y + down[0], across[1], down[1]);
    }

    private void placeKids(PlainWidget w, List<PlainWidget> kids, int wide, int high) {
        switch (w.kind) {
            case "row": placeLine(w, kids, 0); break;
            case "col": placeLine(w, kids, 1); break;
            case "grid": placeGrid(w, kids); break;
            case "flow":
                int y = 0;
                for (List<PlainWidget> row : flow(kids, wide, w.style[GAP])) {
                    int x = 0;
                    for (PlainWidget kid : row) {
                        stand(w, kid, x, y, kid.least[0], kid.least[1]);
                        x += kid.least[0] + w.style[GAP];
                    }
                    y += widest(row, 1) + w.style[GAP];
                }
                break;
            case "scroll":
                for (PlainWidget kid : kids) {
                    int tall = Math.max(high, kid.least[1]);
                    stand(w, kid, 0, -Math.min(w.top, tall - high), Math.max(wide, kid.least[0]), tall);
                }
                break;
            case "tabs": kids.forEach(kid -> stand(w, kid, 0, 8, wide, Math.max(0, high - 8))); break;
            default: kids.forEach(kid -> standIn(w, kid, 0, 0, wide, high)); break;
        }
    }

    private void placeLine(PlainWidget w, List<PlainWidget> kids, int axis) {
        int left = w.content[2 + axis] - line(kids, axis, w.style[GAP]);
        int grows = kids.stream().mapToInt(kid -> kid.style[GROW]).sum();
        List<Integer> sizes = new ArrayList<>();
        kids.forEach(kid -> sizes.add(kid.least[axis] + (left > 0 && grows > 0 ? left * kid.style[GROW] / grows : 0)));
        int rest = left > 0 && grows > 0 ? w.content[2 + axis] - sum(sizes, w.style[GAP]) : 0;
        int at = 0;
        for (int i = 0; i < kids.size(); i++) {
            PlainWidget kid = kids.get(i);
            int size = sizes.get(i);
            if (rest > 0 && kid.style[GROW] > 0) {
                size++;
                rest--;
            }
            int[] other = aligned(w.style[ALIGN], w.content[3 - axis], kid.least[1 - axis]);
            if (axis == 0) {
                stand(w, kid, at, other[0], size, other[1]);
            } else {
                stand(w, kid, other[0], at, other[1], size);
            }
            at += size + w.style[GAP];
        }
    }

    private void placeGrid(PlainWidget w, List<PlainWidget> kids) {
        List<Integer> wide = spread(columns(w, kids), w.content[2], w.style[GAP]);
        List<Integer> high = spread(rows(w, kids), w.content[3], w.style[GAP]);
        for (int i = 0; i < kids.size(); i++) {
            int c = i % wide.size();
            int r = i / wide.size();
            int x = wide.subList(0, c).stream().mapToInt(size -> size + w.style[GAP]).sum();
            int y = high.subList(0, r).stream().mapToInt(size -> size + w.style[GAP]).sum();
            standIn(w, kids.get(i), x, y, wide.get(c), high.get(r));
        }
    }

    private static List<Integer> spread(List<Integer> sizes, int whole, int gap) {
        List<Integer> spread = new ArrayList<>(sizes);
        int left = whole - sum(sizes, gap);
        for (int i = 0; i < sizes.size() && left > 0; i++) {
            spread.set(i, sizes.get(i) + left / sizes.size() + (i < left % sizes.size() ? 1 : 0));
        }
        return spread;
    }

    /** Left edges and widths of a header's parts, or of a table's columns, within the content. */
    static List<int[]> turned(PlainWidget w, List<Integer> sizes) {
        List<int[]> parts = new ArrayList<>();
        int at = 0;
        for (int size : sizes) {
            parts.add(new int[] {w.style[DIR] == 1 ? w.content[2] - at - size : at, size});
            at += size;
        }
        return parts;
    }
}
