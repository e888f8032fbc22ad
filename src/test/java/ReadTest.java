/** Promises 1 to 6, 29, 37 (and 42): the tape, and what reads it: forms, rules, shapes, glyphs, data, tongues. */
public final class ReadTest {
    private static void formFault(String text, int place) {
        ScreenKit kit = new ScreenKit(20, 20);
        Check.form(kit, "col{gap gap}");
        Check.same("form " + text, Check.form(kit, text), -1 - place);
        Check.same("form as it was behind " + text, kit.count(1), 3);
        Check.same("tape behind " + text, kit.count(0), 0);
    }

    private static void styleFault(String text, int place) {
        ScreenKit kit = new ScreenKit(20, 20);
        Check.style(kit, "row,col{pad:1;gap:2;}");
        Check.same("style " + text, Check.style(kit, text), -1 - place);
        Check.same("rules as they were behind " + text, kit.count(2) * 10 + kit.count(3), 22);
        Check.same("tape behind " + text, kit.count(0), 0);
    }

    private static void shapeIs(String text, int due) {
        Check.same("shape " + text, Check.tell(new ScreenKit(20, 20), text).shape(1), due);
    }

    private static void dataIs(String text, int due) {
        ScreenKit kit = new ScreenKit(20, 20);
        Check.tell(kit, "a\nb").data();
        Check.same("data " + text, Check.tell(kit, text).data(), due);
        Check.same("lines of data", kit.count(11), due < 0 ? 2 : due);
    }

    private static void tongueIs(String text, int due) {
        ScreenKit kit = new ScreenKit(20, 20);
        Check.tell(kit, "a=1\nb=2\nc=3").tongue();
        Check.same("tongue " + text, Check.tell(kit, text).tongue(), due);
        Check.same("lines of the tongue", kit.count(12), due < 0 ? 3 : due);
    }

    private static String times(String text, int n) {
        return text.repeat(n);
    }

    private static void newObject() {
        ScreenKit kit = new ScreenKit(-5, 1000);
        Check.same("width is held", kit.pixel(15, 63), -1);
        Check.same("beside", thrown(kit, 16, 0) + thrown(kit, 0, 64) + thrown(kit, -1, 0) + thrown(kit, 0, -1), 4);
        kit = new ScreenKit(1000, -1);
        Check.same("height is held", kit.pixel(95, 15), -1);
        Check.same("beside again", thrown(kit, 96, 0) + thrown(kit, 0, 16), 2);
        Check.same("all dirty", kit.paint(), 96 * 16);
        Check.same("nothing dirty", kit.paint(), 0);
        for (int c = 0; c < 16; c++) {
            Check.same("cell", kit.cell(c), 0);
        }
        Check.same("clip", kit.clip(0), -1);
        int[] due = {0, 0, 0, 0, 0, -1, -1, -1, 0, 96 * 16, 0, 0, 0, -1, -1};
        for (int what = 0; what < due.length; what++) {
            Check.same("count " + what, kit.count(what), due[what]);
        }
        Check.same("count -1", kit.count(-1), -1);
        Check.same("written", kit.written(0), -1);
        Check.same("point", kit.point(3, 3), -1);
        Check.same("NONE", ScreenKit.NONE, -1);
    }

    private static int thrown(ScreenKit kit, int x, int y) {
        try {
            kit.pixel(x, y);
            return 0;
        } catch (ArrayIndexOutOfBoundsException e) {
            return 1;
        }
    }

    private static void tape() {
        ScreenKit kit = new ScreenKit(20, 20);
        kit.sign(0x410a0920_7e7f80ffL);
        Check.same("left out but A, line end, blank, ~", kit.count(0), 4);
        kit.sign(-1L);
        kit.sign(0L);
        Check.same("nothing more", kit.count(0), 4);
        for (int i = 0; i < 400; i++) {
            kit.sign(0x2020202020202020L);
        }
        Check.same("at most 3,000", kit.count(0), 3000);
        Check.same("blanks alone", kit.form(), -1 - 0);
        Check.tell(kit, times(" ", 2996) + "gap gap");
        Check.same("what is beyond is left out", kit.count(0), 3000);
        Check.same("gap and a blank", kit.form(), 1);
        Check.same("taken", kit.count(0), 0);
        Check.tell(kit, "abc").style();
        Check.tell(kit, "abc").shape(0);
        Check.same("taken by a refused shape", kit.count(0), 0);
        Check.tell(kit, "abc").text(5);
        Check.same("taken by a refused text", kit.count(0), 0);
        Check.tell(kit, "abc").text(0);
        Check.same("taken by a text of another kind", kit.count(0), 0);
        Check.tell(kit, "abc").insert(0, 0);
        Check.same("taken by a refused insert", kit.count(0), 0);
        Check.tell(kit, "abc").filter(0);
        Check.same("taken by a refused filter", kit.count(0), 0);
    }

    private static void forms() {
        Check.same("one", Check.form("gap"), 1);
        Check.same("blanks", Check.form(" row \n#a .b\n.c (bind = 3 , off=1) \"x y\" { gap label\"\"{"), -1 - 53);
        Check.same("blanks all over", Check.form("row #a .b\n.c (bind = 3 , off=1) \"x y\" { gap label\"\" } \n"), 3);
        Check.same("no children", Check.form("row{}"), 1);
        Check.same("no child of a scroll", Check.form("col{scroll{} scroll{gap} scroll}"), 5);
        Check.same("no blank needed", Check.form("row{label\"a\"label\"b\"row{}gap}"), 5);
        Check.same("every attribute", Check.form("col{grid(cols=8) label(bind=0,least=999,most=0,wrap=0,off=0) "
            + "list(rows=1000000) radio(pick=999) field(wide=40) picture(img=4) button(do = 15 - 999)}"), 8);
        Check.same("leading noughts", Check.form("grid(cols=0000008)"), 1);
        Check.same("ten boxes in one another", Check.form(times("row{", 10) + "row" + times("}", 10)), 11);
        Check.same("sixty", Check.form("row{" + times("gap ", 59) + "}"), 60);
        Check.same("40 signs", Check.form("label\"" + times("~", 40) + "\""), 1);
        formFault("", 0);
        formFault(" \n", 2);
        formFault("rowx", 0);
        formFault("Row", 0);
        formFault("rOw", 0);
        formFault("row label", 4);
        formFault("row{label", 9);
        formFault("row{label;}", 9);
        formFault("row}", 3);
        formFault("row#a#b", 5);
        formFault("row#", 4);
        formFault("row# a", 4);
        formFault("row#1", 4);
        formFault("row#abcdefghi", 12);
        formFault("row#a{gap#b gap#a}", 16);
        formFault("row.a. b", 6);
        formFault("row.a.b.c.d", 9);
        formFault("row.a#b", 5);
        formFault("row\"x\"(bind=1)", 6);
        formFault("label()", 6);
        formFault("label(", 6);
        formFault("label(wrap=1,)", 13);
        formFault("label(wrap=1,wrap=0)", 13);
        formFault("label(wrap 1)", 11);
        formFault("label(wrap=1 off=1)", 13);
        formFault("label(bind=16)", 11);
        formFault("label(bind=x)", 11);
        formFault("label(wide=3)", 6);
        formFault("label(nothing=3)", 6);
        formFault("label(attribute=3)", 14);
        formFault("list(rows=1000001)", 10);
        formFault("list(rows=01000000)", 17);
        formFault("grid(cols=0)", 10);
        formFault("grid(cols=9)", 10);
        formFault("field(wide=0)", 11);
        formFault("picture(img=5)", 12);
        formFault("button(do=15+1000)", 13);
        formFault("button(do=16+1)", 10);
        formFault("button(do=1)", 11);
        formFault("button(do=1", 11);
        formFault("button(do=1+", 12);
        formFault("label\"" + times("a", 41) + "\"", 46);
        formFault("label\"a\nb\"", 7);
        formFault("label\"ab", 8);
        formFault("gap{", 3);
        formFault("row{" + times("gap ", 60), 240);
        formFault("row{" + times("gap ", 59) + "abcdefghij", 248);
        formFault("row{" + times("gap ", 59) + "abcdefgh", 240);
        formFault(times("row{", 11), 43);
        formFault("scroll{gap gap}", 11);
        formFault("scroll{gap", 10);
        formFault("scroll{row{gap gap} gap}", 20);
    }

    private static void formKeepsCells() {
        ScreenKit kit = new ScreenKit(30, 30);
        Check.form(kit, "col{field\"abc\" list(rows=9) button}");
        kit.put(3, 7);
        kit.focus(0);
        kit.focus(1);
        kit.key('x', false);
        kit.point(2, 2);
        kit.down();
        kit.move(0, 4, 5, 100);
        Check.same("pressed", kit.count(6), 1);
        Check.same("a fault changes nothing", Check.form(kit, "row{"), -5);
        Check.same("still pressed", kit.count(6) * 10 + kit.count(5), 11);
        Check.same("a new form", Check.form(kit, "col{field\"abc\" list(rows=9)}"), 3);
        Check.same("cells stay", kit.cell(3), 7);
        Check.same("none focused", kit.count(5), -1);
        Check.same("none pressed", kit.count(6), -1);
        Check.same("none hovered", kit.count(7), -1);
        Check.same("no move", kit.count(4), 0);
        Check.same("the button is up", kit.up(), -5);
        Check.same("the field's text", Check.letters(kit, 1), "abc");
    }

    private static void styles() {
        Check.same("no rules", Check.style(""), 0);
        Check.same("two selectors", Check.style("row,col{}"), 2);
        Check.same("blanks", Check.style(" row , col > .a\n:off { pad : 1 ; } *{}\n"), 3);
        Check.same("four marks", Check.style("row#a.b:off.d{}"), 1);
        Check.same("only marks", Check.style("#a{} .a{} :off{}"), 3);
        Check.same("forty", Check.style(times("*,", 39) + "*{" + times("pad:1;", 8) + "}"), 40);
        Check.same("all values", Check.style("*{line:3;pad:9;gap:9;wide:96;tall:64;grow:9;align:3;hide:1;}"
            + "*{dir:1;shape:8;ink:0123abcf;paper:00000000;edge:ffffffff;}"), 2);
        styleFault("row", 3);
        styleFault("row{", 4);
        styleFault("row}", 3);
        styleFault("{}", 0);
        styleFault(",row{}", 0);
        styleFault("row,{}", 4);
        styleFault("rows{}", 0);
        styleFault("row>{}", 4);
        styleFault("row > > col{}", 6);
        styleFault("row# a{}", 4);
        styleFault("row*{}", 3);
        styleFault("*row{}", 1);
        styleFault("row:hover:x{}", 10);
        styleFault("row.abcdefghi{}", 12);
        styleFault("* * * *>*{}", 8);
        styleFault("* * * * *{}", 8);
        styleFault("* * * * ]", 8);
        styleFault("row.a.b.c.d.e{}", 11);
        styleFault("row{foo:1;}", 4);
        styleFault("row{pad1;}", 4);
        styleFault("row{pad 1;}", 8);
        styleFault("row{pad:;}", 8);
        styleFault("row{pad:10;}", 8);
        styleFault("row{pad:1}", 9);
        styleFault("row{line:4;}", 9);
        styleFault("row{wide:97;}", 9);
        styleFault("row{tall:65;}", 9);
        styleFault("row{align:4;}", 10);
        styleFault("row{shape:9;}", 10);
        styleFault("row{hide:2;}", 9);
        styleFault("row{pad:00000001;}", 15);
        styleFault("row{ink:ff0000000;}", 16);
        styleFault("row{ink:ff00000;}", 15);
        styleFault("row{ink:fF000000;}", 9);
        styleFault("row{pad:1;}}", 11);
        styleFault("row{" + times("pad:1;", 9) + "}", 52);
        styleFault(times("*,", 40) + "*{}", 80);
        styleFault(times("*{}", 40) + "row{}", 120);
    }

    private static void shapes() {
        shapeIs("", 0);
        shapeIs("m0 0l256 0l0 256z", 3);
        shapeIs(" m 0 0 l 256 0 q 1 2 3 4 z\n", 10);
        shapeIs("m0 0l1 1l2 2zm0 0l1 1l2 2z", 6);
        shapeIs("m0 0" + times("l1 1", 63) + "z", 64);
        shapeIs("m0 0" + times("q1 1 2 2", 7) + times("l1 1", 7) + "z", 64);
        shapeIs("m0 0z", -1 - 4);
        shapeIs("m0 0l1 1z", -1 - 8);
        shapeIs("l0 0", -1 - 0);
        shapeIs("m0", -1 - 2);
        shapeIs("m0,0", -1 - 2);
        shapeIs("m257 0", -1 - 1);
        shapeIs("m0 0l1 1l2 2", -1 - 12);
        shapeIs("m0 0l1 1l2 2z5", -1 - 13);
        shapeIs("m0 0l1 1l2 2zx", -1 - 13);
        shapeIs("m0 0" + times("l1 1", 63) + "l1 1z", -1 - 256);
        shapeIs("m0 0" + times("l1 1", 63) + "lx", -1 - 256);
        shapeIs("m0 0" + times("q1 1 2 2", 7) + "qx", -1 - 60);
        shapeIs("m0 0" + times("l1 1", 63) + "zm0 0", -1 - 257);
        ScreenKit kit = new ScreenKit(20, 20);
        Check.same("shape 0", kit.shape(0), -4);
        Check.same("shape 9", kit.shape(9), -4);
        Check.tell(kit, "m0 0l256 0l256 256l0 256z").shape(8);
        Check.same("a full shape", kit.cover(8, 4, 4, 1, 1), 16);
        Check.tell(kit, "m0 0l256 0z").shape(8);
        Check.same("as it was", kit.cover(8, 4, 4, 1, 1), 16);
        Check.tell(kit, "").shape(8);
        Check.same("without points", kit.cover(8, 4, 4, 1, 1), 0);
    }

    private static void glyphs() {
        ScreenKit kit = new ScreenKit(20, 20);
        Check.same("31", kit.glyph(31, 3, 0), -4);
        Check.same("127", kit.glyph(127, 3, 0), -4);
        Check.same("0 columns", kit.glyph(65, 0, 0), -4);
        Check.same("8 columns", kit.glyph(65, 8, 0), -4);
        kit.paint();
        Check.same("nothing is dirty", kit.paint(), 0);
        Check.same("a glyph", kit.glyph(65, 7, 1L << 8 * 4 + 6 | 1L << 40 | 128), 1);
        Check.same("all is dirty", kit.paint(), 400);
        Check.form(kit, "label\"A\"");
        Check.same("its width", kit.widget(0, 8), 8);
        kit.glyph(65, 5, 0);
        Check.same("its width then", kit.widget(0, 8), 6);
        kit.glyph(65, 7, 1L << 8 * 4 + 6 | 1L << 40 | 128);
        kit.paint();
        Check.same("its pixel alone", Check.picture(kit, 0, 0, 9, 6),
            ".........\n.........\n.........\n.........\n......#..\n.........\n");
    }

    private static void data() {
        dataIs("", 0);
        dataIs("\n\n", 0);
        dataIs("head,n\nb,10\n\na,9", 3);
        dataIs(",\n,,,\n \n", 3);
        dataIs("12345678,\"#' .{},~,z\n", 1);
        dataIs("abcdefghi", -1 - 8);
        dataIs("a,b\na,b,c,d,e", -1 - 11);
        dataIs("a,b,c,d,", -1 - 7);
        dataIs("a,b,c,123456789", -1 - 14);
        dataIs(times("a\n", 40) + "\n", 40);
        dataIs(times("a\n", 40) + "\nb", -1 - 81);
    }

    private static void tongues() {
        tongueIs("", 0);
        tongueIs("one=ONE x\n\ntwo=", 2);
        tongueIs("a=" + times("~", 40) + "\n", 1);
        tongueIs("a=" + times("~", 41), -1 - 42);
        tongueIs("one=x\none=y", -1 - 6);
        tongueIs("one x", -1 - 3);
        tongueIs("one", -1 - 3);
        tongueIs("one\n", -1 - 3);
        tongueIs(" one=x", -1 - 0);
        tongueIs("One=x", -1 - 0);
        tongueIs("one= \"x", -1 - 5);
        tongueIs("abcdefghi=x", -1 - 8);
        StringBuilder b = new StringBuilder();
        for (int i = 0; i < 20; i++) {
            b.append((char) ('a' + i)).append("=1\n");
        }
        tongueIs(b.toString(), 20);
        tongueIs(b + "\nabcdefghijk", -1 - 81);
    }

    public static void main(String[] args) {
        newObject();
        tape();
        forms();
        formKeepsCells();
        styles();
        shapes();
        glyphs();
        data();
        tongues();
        Check.end("ReadTest");
    }
}
