/** Each refused call of the 42 promises: the answer that the document names, and all else as it was. */
public final class EdgeCallsTest {
    private static final int LOW = Integer.MIN_VALUE;
    private static final int HIGH = Integer.MAX_VALUE;

    /** An object in which much is set: something of every kind is there, pressed, focused, selected, opened, told. */
    static ScreenKit rich() {
        ScreenKit kit = new ScreenKit(60, 50);
        Check.tell(kit, "head,n\nb,10\na,9\nc,9").data();
        Check.tell(kit, "one=ONE x\ntwo=").tongue();
        Check.tell(kit, "m0 0l256 0l256 256l0 256z").shape(1);
        kit.image(1, 3, 2);
        kit.dot(1, 1, 1, 0x80402010);
        kit.put(1, 1);
        int n = Check.form(kit, "col#a{row.x{label\"@one\" check(bind=1)\"c\" radio(bind=1,pick=1) button(do=2+3)\"go\"} "
            + "row{field#f(wide=4)\"abc\" slider(bind=2,least=1,most=9)} row{list(rows=9,bind=3) tree\"a(b)c\"} "
            + "tabs{table\"@one\" scroll{col{gap.tall picture}}} dialog(bind=4){button}}");
        Check.same("widgets", n, 20);
        Check.style(kit, ".tall{tall:40;}row{gap:1;}#f{paper:ffeeeeee;}gap{shape:1;}:focus{line:1;}*:hover{edge:ff00ff00;}");
        kit.focus(7);
        kit.key('x', false);
        kit.key(1, true);
        kit.key(5, false);
        kit.key('y', false);
        kit.key(11, false);
        kit.point(kit.widget(10, 4) + 3, kit.widget(10, 5) + 8);
        kit.wheel(1);
        kit.down();
        kit.move(1, 4, 3, 5);
        kit.tick(2);
        return kit;
    }

    private static ScreenKit kit;
    private static String was;

    /** A refused call: its answer, and that nothing else has changed. */
    private static void refused(String what, int got, int due) {
        Check.same(what, got, due);
        Check.same("all else behind " + what, Check.all(kit), was);
        Check.same("dirty behind " + what, kit.paint(), 0);
    }

    private static void begin() {
        kit = rich();
        kit.paint();
        was = Check.all(kit);
    }

    private static void widgets() {
        begin();
        int n = kit.count(1);
        int[] none = {n, -1, LOW, HIGH};
        for (int w : none) {
            refused("able " + w, kit.able(w, true), -2);
            refused("text " + w, Check.tell(kit, "new").text(w), -2);
            refused("filter " + w, Check.tell(kit, "9").filter(w), -2);
            refused("focus " + w, kit.focus(w), -2);
            refused("move " + w, kit.move(w, 4, 1, 1), -2);
            refused("insert " + w, Check.tell(kit, "gap").insert(w, 0), -100000);
            refused("remove " + w, kit.remove(w), -2);
            refused("letter " + w, kit.letter(w, 0), -1);
            refused("field " + w, kit.field(w, 0), -1);
            refused("ordered " + w, kit.ordered(w, 0, 0), -1);
            refused("shown " + w, kit.shown(w, 0), -1);
            refused("spoken " + w, kit.spoken(w, 0), -1);
            for (int what = -1; what <= 16; what++) {
                Check.same("widget " + w + ", " + what, kit.widget(w, what), -1);
            }
        }
        refused("remove 0", kit.remove(0), -5);
    }

    private static void numbers() {
        begin();
        int[][] shapes = {{0}, {9}, {-1}, {LOW}, {HIGH}};
        for (int[] s : shapes) {
            refused("shape " + s[0], Check.tell(kit, "m0 0l9 9l0 9z").shape(s[0]), -4);
            refused("cover of " + s[0], kit.cover(s[0], 8, 8, 1, 1), -4);
        }
        int[][] glyphs = {{31, 3}, {127, 3}, {-1, 3}, {LOW, 3}, {HIGH, 3}, {'a', 0}, {'a', 8}, {'a', LOW}, {'a', HIGH}};
        for (int[] g : glyphs) {
            refused("glyph " + g[0] + ", " + g[1], kit.glyph(g[0], g[1], -1L), -4);
        }
        int[] wheels = {-1001, 1001, LOW, HIGH};
        for (int n : wheels) {
            refused("wheel " + n, kit.wheel(n), -4);
        }
        int[] keys = {0, -1, 16, 31, 128, LOW, HIGH};
        for (int k : keys) {
            refused("key " + k, kit.key(k, false), -4);
            refused("key with shift " + k, kit.key(k, true), -4);
        }
        int[][] moves = {{2, 1}, {9, 1}, {0, 1}, {-1, 1}, {12, 1}, {LOW, 1}, {HIGH, 1}, {4, 0}, {4, 1001}, {4, -1}, {4, LOW}, {4, HIGH}};
        for (int[] m : moves) {
            refused("move of " + m[0] + " in " + m[1], kit.move(1, m[0], 1, m[1]), -4);
        }
        int[] ticks = {0, 1001, -1, LOW, HIGH};
        for (int n : ticks) {
            refused("tick " + n, kit.tick(n), -4);
        }
        int[][] covers = {{0, 8, 0, 0}, {97, 8, 0, 0}, {8, 0, 0, 0}, {8, 97, 0, 0}, {8, 8, 8, 0}, {8, 8, -1, 0}, {8, 8, 0, 8},
            {8, 8, 0, -1}, {LOW, 8, 0, 0}, {8, HIGH, 0, 0}, {8, 8, LOW, 0}, {8, 8, 0, HIGH}};
        for (int[] c : covers) {
            refused("cover", kit.cover(1, c[0], c[1], c[2], c[3]), -4);
        }
    }

    private static void images() {
        begin();
        int[] none = {0, 5, -1, LOW, HIGH};
        for (int n : none) {
            refused("image " + n, kit.image(n, 2, 2), -4);
            refused("dot of " + n, kit.dot(n, 0, 0, 5), -4);
            refused("blend onto " + n, kit.blend(n, 1, 1), -4);
            refused("blend of " + n, kit.blend(1, n, 1), -4);
            refused("scale " + n, kit.scale(n, 2, 2), -4);
        }
        int[][] sizes = {{0, 2}, {33, 2}, {2, 0}, {2, 33}, {-1, 2}, {2, LOW}, {HIGH, 2}};
        for (int[] s : sizes) {
            refused("image of " + s[0] + " by " + s[1], kit.image(1, s[0], s[1]), -4);
            refused("scale to " + s[0] + " by " + s[1], kit.scale(1, s[0], s[1]), -4);
        }
        int[][] dots = {{3, 0}, {0, 2}, {-1, 0}, {0, -1}, {LOW, 0}, {0, HIGH}};
        for (int[] d : dots) {
            refused("dot at " + d[0] + ", " + d[1], kit.dot(1, d[0], d[1], 5), -4);
        }
        int[] kinds = {-1, 12, LOW, HIGH};
        for (int k : kinds) {
            refused("blend " + k, kit.blend(1, 1, k), -4);
        }
        refused("another size", kit.blend(1, 2, 1), -5);
        refused("another size the other way", kit.blend(2, 1, 1), -5);
    }

    private static void states() {
        begin();
        refused("down when it is down", kit.down(), -5);
        int[] kinds = {0, 1, 7, 8, 10, 11, 12, 13, 14, 16, 17, 18};
        for (int w : kinds) {
            refused("text of " + w, Check.tell(kit, "new").text(w), -5);
        }
        int[] unfocused = {0, 1, 2, 6, 14, 15, 16, 17, 18, 19};
        for (int w : unfocused) {
            refused("focus " + w, kit.focus(w), -5);
        }
        int[] boxless = {2, 3, 4, 5, 7, 8, 10, 11, 13, 16, 17, 19};
        for (int w : boxless) {
            refused("insert into " + w, Check.tell(kit, "gap").insert(w, 0), -100000);
        }
        int[][] places = {{0, -1}, {0, 6}, {1, 5}, {14, 0}, {14, 1}, {12, 3}, {0, LOW}, {0, HIGH}};
        for (int[] p : places) {
            refused("insert at " + p[1] + " of " + p[0], Check.tell(kit, "gap").insert(p[0], p[1]), -100000);
        }
        int[] tables = {0, 2, 10, 11, 12};
        for (int w : tables) {
            refused("filter of " + w, Check.tell(kit, "9").filter(w), -2);
        }
        kit.up();
        kit.paint();
        was = Check.all(kit);
        refused("up when it isn't down", kit.up(), -5);
    }

    private interface Call {
        int of(ScreenKit kit);
    }

    private static void thrown(String what, boolean array, Call call) {
        int got = 0;
        try {
            call.of(kit);
        } catch (ArrayIndexOutOfBoundsException e) {
            got = 2;
        } catch (IllegalArgumentException e) {
            got = 1;
        }
        refused(what, got, array ? 2 : 1);
    }

    /** Where an exception is named, it comes, and all else is as it was. */
    private static void thrown() {
        begin();
        int n = kit.count(1);
        int[][] styled = {{-1, 0}, {n, 0}, {0, -1}, {0, 13}, {LOW, 0}, {HIGH, 0}, {0, LOW}, {0, HIGH}};
        for (int[] s : styled) {
            thrown("styled", false, k -> k.styled(s[0], s[1]));
            thrown("ruleOf", false, k -> k.ruleOf(s[0], s[1]));
        }
        int[] cells = {-1, 16, LOW, HIGH};
        for (int c : cells) {
            thrown("cell " + c, false, k -> k.cell(c));
            thrown("put " + c, false, k -> k.put(c, 5));
        }
        int[][] pixels = {{-1, 0}, {-1, 1}, {60, 0}, {60, 48}, {0, -1}, {5, -1}, {0, 50}, {LOW, 0}, {0, HIGH}, {HIGH, HIGH}};
        for (int[] p : pixels) {
            thrown("pixel " + p[0] + ", " + p[1], true, k -> k.pixel(p[0], p[1]));
        }
        int[][] lanes = {{0, 0, 0}, {5, 0, 0}, {1, 3, 0}, {1, 0, 2}, {1, -1, 1}, {1, 0, -1}, {2, 1, 0}, {2, 0, 1}, {3, 1, 0}, {3, 0, 1},
            {4, 1, 0}, {4, 0, 1}, {LOW, 0, 0}, {1, HIGH, 0}, {1, 0, LOW}};
        for (int[] l : lanes) {
            thrown("lanes of " + l[0] + " at " + l[1] + ", " + l[2], true, k -> k.lanes(l[0], l[1], l[2]));
        }
        Check.same("the last pixel", kit.pixel(59, 49), kit.pixel(59, 49));
        Check.same("the last lanes", kit.lanes(1, 2, 1) + kit.lanes(2, 0, 0) + kit.lanes(4, 0, 0), 0);
        Check.same("the last cell", kit.cell(15), 0);
        Check.same("the last property of the last widget", kit.styled(n - 1, 12) + kit.ruleOf(n - 1, 12), -1);
    }

    /** What is asked beside its range is NONE. */
    private static void asked() {
        begin();
        int[] wrong = {-1, LOW, HIGH};
        for (int k : wrong) {
            refused("letter", kit.letter(2, k), -1);
            refused("ordered row", kit.ordered(2, k, 0), -1);
            refused("ordered sign", kit.ordered(2, 0, k), -1);
            refused("clip", kit.clip(k), -1);
            refused("shown", kit.shown(11, k), -1);
            refused("spoken", kit.spoken(2, k), -1);
            refused("written", kit.written(k), -1);
            refused("count", kit.count(k), -1);
            refused("field", kit.field(7, k), -1);
            refused("widget", kit.widget(7, k), -1);
        }
        Check.same("the last number", kit.widget(0, 15), -1);
        Check.same("one above", kit.widget(0, 16), -1);
        Check.same("count 13", kit.count(13), -1);
        Check.same("count 14", kit.count(14), -1);
        Check.same("field 4", kit.field(7, 4), 1);
        Check.same("field 5", kit.field(7, 5), -1);
        Check.same("the last sign of the clip", kit.clip(0), 'x');
        Check.same("one above", kit.clip(1), -1);
        Check.same("the last letter", kit.letter(2, 3), 'e');
        Check.same("one above", kit.letter(2, 4), -1);
        Check.same("the last shown", kit.shown(11, 1), 2);
        Check.same("one above", kit.shown(11, 2), -1);
        Check.same("shown of a list", kit.shown(10, 0), -1);
        int end = Check.written(kit).length();
        Check.same("the last sign written", kit.written(end - 1), '}');
        Check.same("one above", kit.written(end), -1);
        int spoken = "label ONE x".length();
        Check.same("the last sign spoken", kit.spoken(2, spoken - 1), 'x');
        Check.same("one above", kit.spoken(2, spoken), -1);
    }

    public static void main(String[] args) {
        widgets();
        numbers();
        images();
        states();
        thrown();
        asked();
        Check.end("EdgeCallsTest");
    }
}
