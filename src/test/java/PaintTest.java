import java.util.Random;

/** Promises 25 to 27, 42: what is painted of every kind, which pixels are dirty, how much a shape covers. */
public final class PaintTest {
    private static void labels() {
        Check.painted("", "label\"abc\"", 10, 6,
            "#.###.....", "#.........", "#.........", "#.........", "#......#..", "..........");
        Check.painted("*{pad:1;}", "label\"ab\"", 8, 7,
            "........", ".#.###..", ".#......", ".#......", ".#......", ".#......", "........");
        Check.painted("*{dir:1;}", "label\"ba\"", 16, 2, "..........###.#.", "..............#.");
        Check.painted("", "label\"A1\"", 16, 2, "#.##............", "#.##............");
        Check.painted("", "label\"bbbbbb\"", 16, 2, "###.###.###.###.", "................");
        Check.painted("*{dir:1;}", "label\"abbbb\"", 16, 2, "###.###.###.###.", "................");
        Check.painted("*{dir:1;}", "label\"bbbbac\"", 16, 5,
            "##.###.###.#....", "...........#....", "...........#....", "...........#....", "...........#..#.");
        Check.painted("", "label(wrap=1)\"a  bbbb bb\"", 16, 14,
            "#...............", "#...............", "#...............", "#...............", "#...............",
            "................", "###.###.###.###.", "................", "................", "................",
            "................", "................", "###.###.........", "................");
        Check.painted("*{dir:1;pad:1;}", "label(wrap=1)\"b bbb\"", 16, 9,
            "................", "...........###..", "................", "................", "................",
            "................", "................", "...###.###.###..", "................");
    }

    private static void buttons() {
        Check.painted("", "button\"b\"", 16, 7,
            "................", "................", "................", "................", "................",
            "......###.......", "................");
        Check.painted("", "col{button\"bbbbb\"}", 16, 2, "###.###.###.###.", "................");
        Check.painted("*{pad:7;}", "button\"ab\"", 16, 10,
            "................", "................", "................", "................", "................",
            "................", "................", ".......#........", ".......#........", "................");
    }

    private static void checks() {
        Check.painted("", "row{check\"b\"}", 16, 12,
            "................", "................", "................", "................", "................",
            "######.###......", "#....#..........", "#....#..........", "#....#..........", "#....#..........",
            "######..........", "................");
        ScreenKit kit = Check.drawn(16, 16, "", "col{check(bind=1)\"a\" radio(bind=1,pick=3)\"a\"}");
        kit.put(1, 3);
        kit.paint();
        Check.seen(kit, "checked", 16, 12,
            "######.#........", "#....#.#........", "#.##.#.#........", "#.##.#.#........", "#....#.#........",
            "######..........", ".####..#........", "#....#.#........", "#.##.#.#........", "#.##.#.#........",
            "#....#.#........", ".####...........");
        Check.style(kit, "*{dir:1;}");
        kit.put(1, 1);
        kit.paint();
        Check.seen(kit, "turned", 16, 12,
            ".......#..######", ".......#..#....#", ".......#..#.##.#", ".......#..#.##.#", ".......#..#....#",
            "..........######", ".......#...####.", ".......#..#....#", ".......#..#....#", ".......#..#....#",
            ".......#..#....#", "...........####.");
        Check.painted("", "col{check\"b\" radio\"a\" check}", 16, 7,
            "######.###......", "#....#..........", "#....#..........", "#....#..........", "#....#..........",
            "######..........", ".####..#........");
        Check.painted("*{pad:6;}", "check", 16, 11,
            "................", "................", "................", "................", "................",
            "................", "......####......", "......#.........", "......#.........", "......#.........",
            "................");
        Check.painted("*{pad:6;dir:1;}", "check", 16, 11,
            "................", "................", "................", "................", "................",
            "................", "......####......", ".........#......", ".........#......", ".........#......",
            "................");
    }

    private static void sliders() {
        ScreenKit kit = Check.drawn(23, 16, "", "col{slider(bind=1,least=10,most=30)}");
        String line = "#######################";
        int[][] due = {{10, 0}, {11, 1}, {20, 10}, {30, 20}, {31, 20}, {-5, 0}, {Integer.MAX_VALUE, 20}, {Integer.MIN_VALUE, 0}};
        for (int[] d : due) {
            kit.put(1, d[0]);
            kit.paint();
            String knob = ".".repeat(d[1]) + "###" + ".".repeat(20 - d[1]);
            Check.seen(kit, "slider at " + d[0], 23, 7, knob, knob, line, knob, knob, knob, ".".repeat(23));
        }
        Check.style(kit, "slider{dir:1;}");
        kit.put(1, 11);
        kit.paint();
        String knob = ".".repeat(19) + "###.";
        Check.seen(kit, "slider turned", 23, 6, knob, knob, line, knob, knob, knob);
        Check.painted("", "col{slider(least=5,most=5)}", 16, 3, "###.............", "###.............", "################");
        Check.painted("", "col{slider(least=5,most=4)}", 16, 3, "###.............", "###.............", "################");
        Check.painted("slider{pad:7;}", "slider", 16, 10, "................", "................", "................",
            "................", "................", "................", "................", ".......##.......",
            ".......##.......", "................");
        Check.painted("slider{pad:7;line:3;}", "slider", 16, 1, "................");
        kit = Check.drawn(16, 16, "slider{ink:80000000;}", "slider");
        kit.paint();
        Check.same("the knob over the line", kit.pixel(0, 7) & 255, (127 * 127 + 127) / 255);
        Check.same("the line", kit.pixel(3, 7) & 255, 127);
    }

    private static void fields() {
        ScreenKit kit = Check.drawn(16, 16, "field{paper:00ffffff;}", "col{field\"abab\"}");
        kit.paint();
        Check.seen(kit, "a field", 16, 6, "#.###.#.###.....", "#.....#.........", "#.....#.........", "#.....#.........",
            "#.....#.........", "................");
        kit.focus(1);
        kit.paint();
        Check.seen(kit, "its caret", 16, 7, ".#...#.#...#.###", "......#.....#..#", "......#.....#..#", "......#.....#..#",
            "......#.....#..#", "############.###", "................");
        kit.key(1, true);
        kit.paint();
        Check.seen(kit, "its selection", 16, 6, ".#...#.#.##.####", "......#.####...#", "......#.####...#", "......#.####...#",
            "......#.####...#", "########.#######");
        kit.key(3, false);
        kit.key(2, false);
        kit.key(2, true);
        kit.paint();
        Check.seen(kit, "another one", 16, 1, ".####..#...#####");
        kit.key(4, false);
        kit.key(1, true);
        kit.able(1, true);
        kit.paint();
        Check.seen(kit, "a selection without focus", 16, 6, "#.###.#....#....", "#.....#.####....", "#.....#.####....",
            "#.....#.####....", "#.....#.####....", "................");
        Check.painted("*{dir:1;}", "field\"bbbbbb\"", 16, 6, "................", "................", "................",
            "................", "................", "###.###.###.....");
        Check.painted("", "col{field\"A1\"}", 16, 1, "##.#............");
    }

    private static void lists() {
        ScreenKit kit = Check.drawn(16, 16, "list{paper:00ffffff;}", "list(rows=12,bind=1)");
        kit.put(1, 10);
        kit.point(3, 3);
        kit.wheel(9);
        kit.paint();
        Check.seen(kit, "a list", 16, 16,
            "#...............", "#...............", "#...............", "#...............", "#...............",
            "................", ".#.#############", ".#.#############", ".#.#############", ".#.#############",
            ".#.#############", "################", "#.#.............", "#.#.............", "#.#.............",
            "#.#.............");
        Check.style(kit, "list{dir:1;paper:0000ff00;}");
        kit.paint();
        Check.same("paper's colour", kit.pixel(12, 6), 0xff00ff00);
        Check.same("on ink", kit.pixel(11, 6), 0xff000000);
        Check.same("at the right", kit.pixel(14, 0), 0xff000000);
        Check.painted("list{pad:5;}", "list(rows=1)", 16, 16,
            "................", "................", "................", "................", "................",
            ".....#..........", ".....#..........", ".....#..........", ".....#..........", ".....#..........",
            "................", "................", "................", "................", "................",
            "................");
    }

    private static void trees() {
        ScreenKit kit = Check.drawn(18, 18, "tree{paper:00ffffff;}", "tree(bind=1)\"a(b)a\"");
        kit.put(1, 2);
        kit.paint();
        String ground = "######.###########";
        Check.seen(kit, "a tree", 18, 14,
            "......#...........", ".#....#...........", "###...#...........", ".#....#...........", "......#...........",
            "..................", ground, ground, ground, ground, ground, "##################", "..................",
            "..................");
        kit.put(1, 0);
        Check.click(kit, 5, 3);
        kit.point(9, 16);
        kit.down();
        kit.up();
        kit.put(1, 0);
        kit.able(0, true);
        kit.paint();
        Check.seen(kit, "opened", 18, 14, ground, ground, "...###.###########", ground, ground, "##################",
            "..........###.....", "..................", "..................", "..................", "..................",
            "..................", "......#...........", "......#...........");
    }

    private static void tables() {
        ScreenKit kit = Check.drawn(17, 16, "table{paper:00ffffff;}", "table(bind=1)");
        kit.put(1, -1);
        Check.tell(kit, "bbb,a\na,b\nb").data();
        kit.paint();
        Check.seen(kit, "a table", 17, 14,
            "###.###.#........", "........#........", "........#........", "........#........", "........#........",
            ".................", "#.......###......", "#................", "#................", "#................",
            "#................", ".................", "###..............", ".................");
        Check.click(kit, 9, 3);
        kit.able(0, true);
        kit.paint();
        Check.seen(kit, "sorted up", 17, 7,
            "###.###.#........", "........#..#.....", "........#.###....", "........#..#.....", "........#........",
            ".................", "###..............");
        kit.able(0, false);
        Check.click(kit, 9, 3);
        kit.able(0, true);
        kit.put(1, 1);
        kit.paint();
        Check.seen(kit, "sorted down", 17, 14,
            "###.###.#........", "........#........", "........#.###....", "........#........", "........#........",
            ".................", "#.......###......", "#................", "#................", "#................",
            "#................", ".................", "...##############", "#################");
        Check.style(kit, "table{dir:1;}");
        kit.put(1, 2);
        kit.paint();
        Check.seen(kit, "turned", 17, 8,
            "#........###.###.", "#................", "#.###............", "#................", "#................",
            ".................", "###......#.......", ".........#.......");
        kit = Check.drawn(16, 16, "", "table");
        kit.paint();
        Check.seen(kit, "no data", 16, 2, "................", "................");
    }

    private static void tabs() {
        ScreenKit kit = Check.drawn(20, 16, "", "tabs(bind=1){gap\"a\" gap\"b\"}");
        kit.paint();
        Check.seen(kit, "tabs", 20, 9,
            "....................", "..#.....###.........", "..#.................", "..#.................",
            "..#.................", "..#.................", "....................", "######..............",
            "....................");
        kit.put(1, 1);
        kit.paint();
        Check.seen(kit, "the other", 20, 9,
            "....................", "..#.....###.........", "..#.................", "..#.................",
            "..#.................", "..#.................", "....................", "......########......",
            "....................");
        Check.style(kit, "tabs{dir:1;}");
        kit.put(1, 2);
        kit.paint();
        Check.seen(kit, "none, turned", 20, 8,
            "....................", "........###.....#...", "................#...", "................#...",
            "................#...", "................#...", "....................", "....................");
    }

    private static int over(int was, int colour) {
        int a = colour >>> 24;
        int out = 255;
        for (int shift = 16; shift >= 0; shift -= 8) {
            out = out << 8 | ((255 - a) * (was >> shift & 255) + a * (colour >> shift & 255) + 127) / 255;
        }
        return out;
    }

    private static void boxes() {
        ScreenKit kit = Check.drawn(16, 16, "row{paper:80ff0000;line:2;edge:400000ff;pad:1;}gap{paper:ff00ff00;wide:96;}", "row{gap}");
        kit.paint();
        int paper = over(-1, 0x80ff0000);
        Check.same("paper", paper, 0xffff7f7f);
        Check.same("inside the edge", kit.pixel(2, 2), paper);
        int edge = over(paper, 0x400000ff);
        int[][] places = {{0, 0}, {1, 1}, {15, 15}, {14, 14}, {15, 0}, {1, 7}, {7, 1}, {14, 7}, {7, 14}};
        for (int[] p : places) {
            Check.same("edge at " + p[0] + ", " + p[1], kit.pixel(p[0], p[1]), edge);
        }
        Check.same("what is in it", kit.pixel(3, 3), 0xff00ff00);
        Check.same("within the content alone", kit.pixel(13, 7), paper);
        Check.style(kit, "row{line:3;edge:800000ff;}gap{wide:4;}*{align:0;}gap{tall:3;line:3;edge:8000ff00;}");
        kit.paint();
        Check.same("each pixel once", kit.pixel(5, 5), over(-1, 0x8000ff00));
        Check.style(kit, "row{hide:1;paper:ff000000;}");
        kit.paint();
        Check.same("nothing of hidden ones", kit.pixel(5, 5), -1);
        Check.style(kit, "row{paper:ff102030;}");
        Check.form(kit, "tabs");
        Check.style(kit, "tabs{paper:ff102030;}");
        kit.focus(0);
        kit.paint();
        Check.same("focus turns", kit.pixel(0, 5), 0xffefdfcf);
        Check.same("its outermost pixels", kit.pixel(15, 15), 0xffefdfcf);
        Check.same("alone", kit.pixel(1, 1), 0xff102030);
    }

    private static void shapes() {
        ScreenKit kit = Check.drawn(16, 16, "gap{shape:2;ink:80ff0000;paper:ffffffff;line:1;edge:ff0000ff;}", "gap");
        kit.paint();
        Check.same("a shape without points", kit.pixel(5, 5), -1);
        Check.tell(kit, "m0 0l128 0l128 256l0 256z").shape(2);
        kit.paint();
        Check.same("covered", kit.pixel(7, 7), over(-1, 0x80ff0000));
        Check.same("not covered", kit.pixel(8, 7), -1);
        Check.same("below the edge", kit.pixel(0, 7), 0xff0000ff);
        Check.tell(kit, "m0 0l140 0l140 256l0 256z").shape(2);
        kit.paint();
        Check.same("in part", kit.cover(2, 16, 16, 8, 7), 12);
        Check.same("with A * cover / 16", kit.pixel(8, 7), over(-1, 0x80 * 12 / 16 << 24 | 0xff0000));
        Check.same("wrong", kit.cover(0, 9, 9, 1, 1) + kit.cover(9, 9, 9, 1, 1) + kit.cover(1, 0, 9, 0, 1)
            + kit.cover(1, 97, 9, 1, 1) + kit.cover(1, 9, 0, 1, 0) + kit.cover(1, 9, 97, 1, 1) + kit.cover(1, 9, 9, 9, 1)
            + kit.cover(1, 9, 9, -1, 1) + kit.cover(1, 9, 9, 1, 9) + kit.cover(1, 9, 9, 1, -1), -40);
        Check.tell(kit, "m0 0l256 0l256 256l0 256zm64 64l64 192l192 192l192 64z").shape(1);
        Check.same("the other way round: not inside", kit.cover(1, 8, 8, 4, 4), 0);
        Check.same("inside", kit.cover(1, 8, 8, 1, 1), 16);
        Check.tell(kit, "m0 0l256 0l256 256l0 256zm64 64l192 64l192 192l64 192z").shape(1);
        Check.same("the same way round: inside", kit.cover(1, 8, 8, 4, 4), 16);
        // points of a pixel of an 8 by 8 widget stand at 4, 12, 20, 28 of its 32
        Check.tell(kit, "m0 4l256 4l256 28l0 28z").shape(1);
        Check.same("the upper end and not the lower one", kit.cover(1, 8, 8, 0, 0), 12);
        Random random = new Random(9);
        for (int n = 0; n < 300; n++) {
            cover(kit, random);
        }
    }

    private static void cover(ScreenKit kit, Random random) {
        int rings = 1 + random.nextInt(3);
        StringBuilder text = new StringBuilder();
        int[] lines = new int[400];
        int n = 0;
        for (int r = 0; r < rings; r++) {
            int first = random.nextInt(257);
            int firstY = random.nextInt(257);
            int x = first;
            int y = firstY;
            text.append('m').append(x).append(' ').append(y);
            int points = 2 + random.nextInt(4);
            for (int p = 0; p <= points; p++) {
                boolean last = p == points;
                int toX = last ? first : random.nextInt(257);
                int toY = last ? firstY : random.nextInt(257);
                int steps = 1;
                int bentX = 0;
                int bentY = 0;
                if (!last && p > 0 && random.nextInt(4) == 0) {
                    steps = 8;
                    bentX = random.nextInt(257);
                    bentY = random.nextInt(257);
                    text.append('q').append(bentX).append(' ').append(bentY).append(' ');
                } else {
                    text.append(last ? "z" : "l");
                }
                if (!last) {
                    text.append(toX).append(' ').append(toY);
                }
                int fromX = x;
                int fromY = y;
                for (int k = 1; k <= steps; k++) {
                    int bx = steps == 1 ? toX : ((8 - k) * (8 - k) * fromX + 2 * k * (8 - k) * bentX + k * k * toX) / 64;
                    int by = steps == 1 ? toY : ((8 - k) * (8 - k) * fromY + 2 * k * (8 - k) * bentY + k * k * toY) / 64;
                    lines[n++] = x;
                    lines[n++] = y;
                    lines[n++] = bx;
                    lines[n++] = by;
                    x = bx;
                    y = by;
                }
            }
        }
        if (n / 4 > 64) {
            return;
        }
        Check.same("points of " + text, Check.tell(kit, text.toString()).shape(3), n / 4);
        for (int t = 0; t < 12; t++) {
            int w = 1 + random.nextInt(random.nextBoolean() ? 96 : 9);
            int h = 1 + random.nextInt(random.nextBoolean() ? 96 : 9);
            int x = random.nextInt(w);
            int y = random.nextInt(h);
            Check.same("cover of " + text + " at " + x + ", " + y + " of " + w + " by " + h,
                kit.cover(3, w, h, x, y), covered(lines, n, w, h, x, y));
        }
    }

    static int covered(int[] lines, int n, int w, int h, int x, int y) {
        int inside = 0;
        for (int p = 0; p < 16; p++) {
            long px = 32L * (8 * x + 2 * (p % 4) + 1);
            long py = 32L * (8 * y + 2 * (p / 4) + 1);
            int turns = 0;
            for (int i = 0; i < n; i += 4) {
                long ax = (long) lines[i] * w;
                long ay = (long) lines[i + 1] * h;
                long bx = (long) lines[i + 2] * w;
                long by = (long) lines[i + 3] * h;
                if (ay <= py && py < by && (bx - ax) * (py - ay) > (px - ax) * (by - ay)) {
                    turns--;
                }
                if (by <= py && py < ay && (ax - bx) * (py - by) > (px - bx) * (ay - by)) {
                    turns++;
                }
            }
            inside += turns != 0 ? 1 : 0;
        }
        return inside;
    }

    private static void dirty() {
        ScreenKit kit = Check.drawn(20, 40, "", "col{label\"a\" check(bind=1) slider(bind=2,most=9) list(rows=2,bind=3) gap.g}");
        Check.same("all", kit.paint(), 800);
        Check.same("nothing", kit.paint(), 0);
        Check.tell(kit, "b").text(1);
        Check.same("a label", kit.paint(), 120);
        Check.tell(kit, "b").text(1);
        Check.same("the same text", kit.paint(), 0);
        kit.put(1, 1);
        Check.same("a check", kit.paint(), 120);
        kit.put(1, 2);
        Check.same("checked as well", kit.paint(), 0);
        kit.put(2, 100);
        Check.same("a slider", kit.paint(), 120);
        kit.put(2, 200);
        Check.same("its value", kit.paint(), 120);
        kit.put(3, 1);
        Check.same("a list", kit.paint(), 240);
        kit.put(3, 50);
        kit.paint();
        kit.put(3, 60);
        Check.same("none selected as well", kit.paint(), 0);
        kit.put(1, 0);
        kit.put(1, 2);
        Check.same("there and back", kit.paint(), 0);
        kit.focus(2);
        Check.same("focus", kit.paint(), 120);
        kit.focus(3);
        Check.same("both", kit.paint(), 240);
        kit.point(3, 3);
        kit.down();
        Check.same("focus away", kit.paint(), 120);
        Check.style(kit, "gap{paper:ff00ff00;tall:4;}");
        Check.same("a gap", kit.paint(), 80);
        Check.style(kit, ".g{tall:4;paper:ff00ff00;}");
        Check.same("by another rule", kit.paint(), 0);
        Check.style(kit, ".g{tall:3;paper:ff00ff00;}");
        Check.same("what it was, too", kit.paint(), 80);
        Check.style(kit, "label{hide:1;}");
        Check.same("all goes up", kit.paint(), 20 * 33);
        Check.style(kit, "label{hide:1;}col{gap:1;}");
        Check.same("all that goes down", kit.paint(), 20 * 20);
        Check.style(kit, "label{hide:1;}col{gap:1;grow:5;align:3;}");
        Check.same("what isn't seen", kit.paint(), 0);
        Check.style(kit, "label{hide:1;}col{gap:1;}*:hover{edge:ff00ff00;}");
        kit.point(4, 39);
        Check.same("an edge without a line", kit.paint(), 800);
        kit.glyph('z', 0, 1);
        Check.same("no glyph", kit.paint(), 0);
        kit.glyph('z', 1, 1);
        Check.same("a glyph", kit.paint(), 800);
        Check.form(kit, "gap{");
        Check.same("no form", kit.paint(), 0);
        Check.form(kit, "gap");
        Check.same("a form", kit.paint(), 800);
        Check.same("in all", kit.count(9) > 800 * 4 ? 1 : 0, 1);
    }

    private static void dirtyLooks() {
        ScreenKit kit = Check.drawn(20, 64, "*{tall:6;}.s{shape:1;}.t{shape:2;}",
            "col{gap.s gap.t tree\"a(b)\" table field\"a\" label\"@one\" tabs{gap\"@one\" field}}");
        Check.same("places", Check.place(kit, 7), "0 42 20 14");
        Check.tell(kit, "a\nb\n").data();
        kit.paint();
        Check.tell(kit, "m0 0l256 0l256 256z").shape(1);
        Check.same("a shape", kit.paint(), 120);
        Check.tell(kit, "m0 0l256 0l256 256z").shape(1);
        Check.same("the same points", kit.paint(), 0);
        Check.tell(kit, "m0 0l256 0l256 255z").shape(1);
        Check.tell(kit, "m0 0l256 0l256 256z").shape(1);
        Check.same("there and back", kit.paint(), 0);
        Check.style(kit, "*{tall:6;}.s{shape:2;}.t{shape:2;}");
        Check.same("its number", kit.paint(), 120);
        Check.tell(kit, "m0 0l256 0l256 256z").shape(2);
        Check.same("both", kit.paint(), 240);
        Check.tell(kit, "m0 0l256 0l256 256z").shape(1);
        Check.same("of none", kit.paint(), 0);
        Check.tell(kit, "a\nb").data();
        Check.same("the same data", kit.paint(), 0);
        Check.tell(kit, "a\nb,x").data();
        Check.same("other data", kit.paint(), 240);
        Check.tell(kit, "b").filter(4);
        Check.same("filtered", kit.paint(), 240);
        Check.tell(kit, "b").filter(4);
        Check.same("filtered so", kit.paint(), 0);
        Check.click(kit, 3, 19);
        kit.focus(5);
        kit.paint();
        kit.able(4, true);
        Check.same("off isn't seen", kit.paint(), 0);
        Check.tell(kit, "one=a").tongue();
        Check.same("a label, tabs and their page", kit.paint(), 120 + 20 * 14);
        Check.tell(kit, "two=a\none=a").tongue();
        Check.same("the same text", kit.paint(), 0);
        kit.key(3, false);
        Check.same("a caret", kit.paint(), 120);
        kit.key(4, true);
        Check.same("a selection", kit.paint(), 120);
        kit.key('a', false);
        Check.same("a caret without a selection", kit.paint(), 120);
        kit.key(5, false);
        Check.same("nothing", kit.paint(), 0);
    }

    private static void dirtySorts() {
        ScreenKit kit = Check.drawn(20, 40, "", "col{table tree\"a(b)\" tabs{gap\"a\" gap\"b\"}}");
        Check.tell(kit, "h\n1\n1").data();
        kit.able(0, true);
        kit.paint();
        for (int n = 0; n < 3; n++) {
            kit.able(0, false);
            Check.click(kit, 3, 3);
            kit.able(0, true);
            Check.same("up, down, not at all", kit.paint(), 20 * 18);
        }
        kit.able(0, false);
        Check.click(kit, 3, 19);
        kit.able(0, true);
        Check.same("opened", kit.paint(), 20 * 12);
        kit.able(0, false);
        Check.click(kit, 10, 31);
        kit.able(0, true);
        Check.same("another page", kit.paint(), 20 * 8);
        kit.able(0, false);
        Check.click(kit, 3, 7);
        kit.able(0, true);
        Check.same("a row", kit.paint(), 20 * 18);
    }

    private static void dirtyStock() {
        ScreenKit kit = new ScreenKit(16, 16);
        Check.form(kit, "stack{picture gap.g}");
        Check.style(kit, ".g{shape:8;}");
        kit.paint();
        kit.dot(1, 0, 0, 5);
        Check.same("image 1", kit.paint(), 256);
        Check.same("as painted", kit.paint(), 0);
        kit.image(1, 1, 2);
        kit.dot(1, 0, 0, 5);
        Check.same("another size", kit.paint(), 256);
        Check.tell(kit, "m1 0l9 9l0 9z").shape(8);
        Check.same("shape 8", kit.paint(), 256);
        Check.same("as painted", kit.paint(), 0);
        Check.tell(kit, "m2 0l9 9l0 9z").shape(8);
        Check.same("its first point", kit.paint(), 256);
        Check.tell(kit, "m2 0l9 9l0 8z").shape(8);
        Check.same("its last point", kit.paint(), 256);
        Check.tell(kit, "m2 0l9 9l0 8l0 8l0 8l0 8z").shape(8);
        kit.paint();
        Check.tell(kit, "m2 0l9 9l0 8zm0 8l0 8l0 8z").shape(8);
        Check.same("other rings of the same points", kit.paint(), 256);
        Check.tell(kit, "m0 0l256 0l256 256l0 256z").shape(1);
        Check.style(kit, ".g{shape:1;ink:ff00ff00;}");
        kit.paint();
        Check.same("shape 1", kit.pixel(0, 0) + "/" + kit.pixel(15, 15), 0xff00ff00 + "/" + 0xff00ff00);
    }

    /** What a box's content cuts, on each side. */
    private static void cuts() {
        ScreenKit kit = Check.drawn(16, 16, "stack{pad:4;align:1;}.g{wide:16;tall:16;paper:ff000000;}scroll{pad:1;}.h{wide:16;tall:30;"
            + "paper:ff000000;}", "stack{gap.g}");
        kit.paint();
        String out = "................";
        String in = "....########....";
        Check.seen(kit, "cut", 16, 16, out, out, out, out, in, in, in, in, in, in, in, in, out, out, out, out);
        Check.style(kit, "stack{pad:4;align:2;dir:1;}.g{wide:16;tall:16;paper:ff000000;}");
        kit.paint();
        Check.seen(kit, "cut", 16, 16, out, out, out, out, in, in, in, in, in, in, in, in, out, out, out, out);
        Check.form(kit, "scroll{stack{gap.g}}");
        Check.style(kit, "scroll{pad:2;}stack{pad:1;}.g{tall:30;paper:ff000000;}");
        kit.point(8, 8);
        kit.wheel(1);
        kit.paint();
        in = "...##########...";
        Check.seen(kit, "scrolled", 16, 16, out, out, in, in, in, in, in, in, in, in, in, in, in, in, out, out);
        kit.wheel(10);
        kit.paint();
        Check.seen(kit, "to the end", 16, 16, out, out, in, in, in, in, in, in, in, in, in, in, in, out, out, out);
    }

    /** A shape, an edge, FOCUS and a picture of a widget that stands somewhere. */
    private static void somewhere() {
        ScreenKit kit = Check.drawn(24, 16, "row{pad:3;gap:5;align:0;}gap{wide:8;tall:4;line:1;edge:ff00ff00;shape:1;}tabs{wide:4;tall:5;}",
            "row{gap tabs}");
        Check.tell(kit, "m0 0l256 0l256 128l128 128l128 256l0 256z").shape(1);
        kit.focus(2);
        kit.paint();
        String out = "....................";
        Check.seen(kit, "somewhere", 20, 16, out, out, out, "...oooooooo.....####", "...o######o.....#..#", "...o###...o.....#..#",
            "...oooooooo.....#..#", out.substring(0, 16) + "#..#", out.substring(0, 16) + "#..#",
            out.substring(0, 16) + "#..#", out.substring(0, 16) + "####", out, out, out, out, out);
    }

    private static void dirtyDialogs() {
        ScreenKit kit = Check.drawn(40, 30, "#a{wide:8;tall:8;paper:ffff0000;}#b{wide:10;tall:6;paper:ff0000ff;}",
            "stack{dialog(bind=0){gap#a} dialog(bind=1){gap#b}}");
        kit.put(0, 1);
        kit.put(1, 1);
        kit.paint();
        Check.same("the newest last", kit.pixel(17, 15), 0xff0000ff);
        kit.put(0, 0);
        kit.put(0, 1);
        Check.same("the row of them", kit.paint(), 64 + 60 - 48);
        Check.same("the other last", kit.pixel(17, 15), 0xffff0000);
        kit.put(0, 0);
        Check.same("one goes", kit.paint(), 64 + 60 - 48);
        kit.put(1, 0);
        Check.same("none", kit.paint(), 60);
        kit.put(1, 0);
        Check.same("nothing", kit.paint(), 0);
        kit.put(1, 1);
        kit.put(0, 1);
        kit.paint();
        Check.style(kit, "#a{wide:8;tall:8;paper:ffff0000;}#b{wide:10;tall:6;paper:ff0000ff;}*{grow:1;}");
        Check.same("the same row of them", kit.paint(), 0);
    }

    public static void main(String[] args) {
        labels();
        buttons();
        checks();
        sliders();
        fields();
        lists();
        trees();
        tables();
        tabs();
        boxes();
        shapes();
        dirty();
        dirtyLooks();
        dirtyDialogs();
        dirtySorts();
        dirtyStock();
        cuts();
        somewhere();
        Check.end("PaintTest");
    }
}
