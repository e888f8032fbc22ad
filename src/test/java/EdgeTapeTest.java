/** The opening lines of the document's terms, and promise 2: THE TAPE, words, numbers, faults, refusals; edge by edge. */
public final class EdgeTapeTest {

    private static String times(String text, int n) {
        return text.repeat(n);
    }

    /** THE TAPE has at most 3,000 signs; what is beyond is left out. */
    private static void room() {
        ScreenKit kit = new ScreenKit(16, 16);
        Check.same("nothing told", kit.count(0), 0);
        Check.tell(kit, times(" ", 2999));
        Check.same("one below", kit.count(0), 2999);
        Check.tell(kit, "gap");
        Check.same("the greatest number", kit.count(0), 3000);
        Check.tell(kit, "gap");
        Check.same("one above", kit.count(0), 3000);
        Check.same("the first of the eight came in", kit.form(), -1 - 2999);
        Check.tell(kit, times(" ", 2997) + "gap");
        Check.same("just so many", kit.form(), 1);
        Check.tell(kit, times(" ", 2998) + "gap");
        Check.same("one more", kit.form(), -1 - 2998);
        Check.tell(kit, times("\n", 3001));
        Check.same("the tape's length", kit.form(), -3001);
        Check.tell(kit, times("x", 3001)).form();
        Check.tell(kit, "gap");
        Check.same("there is room again", kit.form(), 1);
    }

    /** Signs are 32 .. 126 and 10; the bytes from the highest on, others are left out. */
    private static void bytes() {
        for (int c = 0; c < 256; c++) {
            ScreenKit kit = new ScreenKit(16, 16);
            int due = c == 10 || (c >= 32 && c <= 126) ? 1 : 0;
            kit.sign(c);
            Check.same("the lowest byte " + c, kit.count(0), due);
            kit.sign((long) c << 56);
            Check.same("the highest byte " + c, kit.count(0), 2 * due);
            kit.sign((long) c << 24);
            Check.same("one between " + c, kit.count(0), 3 * due);
        }
        ScreenKit kit = new ScreenKit(16, 16);
        kit.sign(0x7069637475726520L);
        Check.same("eight signs", kit.count(0), 8);
        Check.same("from the highest on", kit.form() * 100 + kit.widget(0, 0), 118);
        kit.sign(0x0067007f61ff7080L);
        Check.same("three of eight", kit.count(0), 3);
        Check.same("in their order", kit.form() * 100 + kit.widget(0, 0), 113);
        kit.sign(0x6761L);
        kit.sign(0x70L << 32);
        Check.same("behind those that are there", kit.form(), 1);
        kit.sign(-1L);
        kit.sign(Long.MIN_VALUE);
        kit.sign(0L);
        Check.same("none of them is a sign", kit.count(0), 0);
    }

    private static void taken(ScreenKit kit, String what, int got, int due) {
        Check.same(what, got, due);
        Check.same("the tape behind " + what, kit.count(0), 0);
    }

    /** What reads the tape takes it, whatever comes of it. */
    private static void taking() {
        ScreenKit kit = new ScreenKit(16, 16);
        taken(kit, "a form", Check.form(kit, "col{label table scroll{gap}}"), 5);
        taken(kit, "no form", Check.form(kit, "col{"), -5);
        taken(kit, "rules", Check.style(kit, "gap{pad:1;}"), 1);
        taken(kit, "no rules", Check.style(kit, "gap{"), -5);
        taken(kit, "a shape", Check.tell(kit, "m0 0l1 1l2 2z").shape(1), 3);
        taken(kit, "no shape", Check.tell(kit, "m0 0l1 1l2 2").shape(1), -13);
        taken(kit, "shape 0", Check.tell(kit, "m0 0l1 1l2 2z").shape(0), -4);
        taken(kit, "shape 9", Check.tell(kit, "m0 0l1 1l2 2z").shape(9), -4);
        taken(kit, "a text", Check.tell(kit, "abc").text(1), 3);
        taken(kit, "a text of no widget", Check.tell(kit, "abc").text(5), -2);
        taken(kit, "a text of another kind", Check.tell(kit, "abc").text(0), -5);
        taken(kit, "data", Check.tell(kit, "abc").data(), 1);
        taken(kit, "no data", Check.tell(kit, "abcdefghi").data(), -9);
        taken(kit, "a filter", Check.tell(kit, "abc").filter(2), 0);
        taken(kit, "a filter of no table", Check.tell(kit, "abc").filter(1), -2);
        taken(kit, "a filter of no widget", Check.tell(kit, "abc").filter(5), -2);
        taken(kit, "a tongue", Check.tell(kit, "a=b").tongue(), 1);
        taken(kit, "no tongue", Check.tell(kit, "a").tongue(), -2);
        taken(kit, "a new widget", Check.tell(kit, "gap").insert(0, 0), 1);
        taken(kit, "no new widget", Check.tell(kit, "gap{").insert(0, 0), -4);
        taken(kit, "no place", Check.tell(kit, "gap").insert(0, 9), -100000);
        taken(kit, "no box", Check.tell(kit, "gap").insert(1, 0), -100000);
        taken(kit, "a full scroll", Check.tell(kit, "gap").insert(4, 0), -100000);
    }

    /** Calls that don't read the tape leave it. */
    private static void leaving() {
        ScreenKit kit = new ScreenKit(16, 16);
        Check.form(kit, "col{label\"a\" field\"b\" list(rows=3)}");
        Check.tell(kit, "abc");
        kit.glyph('a', 3, 1);
        Check.all(kit);
        kit.put(1, 1);
        kit.able(1, true);
        kit.point(3, 9);
        kit.down();
        kit.up();
        kit.wheel(1);
        kit.key('x', false);
        kit.focus(2);
        kit.move(1, 4, 1, 1);
        kit.tick(1);
        kit.paint();
        kit.image(1, 2, 2);
        kit.dot(1, 1, 1, 1);
        kit.blend(1, 1, 1);
        kit.scale(1, 3, 3);
        kit.remove(1);
        Check.same("all signs are there", kit.count(0), 3);
        kit.remove(1);
        Check.same("they are read then", kit.text(1), -5);
    }

    private static void name(String name, int fault) {
        int due = fault < 0 ? 1 : -1 - 4 - fault;
        Check.same("name " + name, Check.form("gap#" + name), due);
        Check.same("class " + name, Check.form("gap." + name), due);
        Check.same("class of a rule " + name, Check.style("." + name + "{}"), fault < 0 ? 1 : -1 - 1 - fault);
        Check.same("name of a rule " + name, Check.style("#" + name + "{}"), fault < 0 ? 1 : -1 - 1 - fault);
        Check.same("word of a tongue " + name, Check.tell(new ScreenKit(16, 16), name + "=x").tongue(),
            fault < 0 ? 1 : -1 - fault);
    }

    /** A WORD: a letter a .. z, then letters and digits, 1 to 8; a ninth sign can't be there. */
    private static void words() {
        name("a", -1);
        name("z", -1);
        name("a0", -1);
        name("a9", -1);
        name("za", -1);
        name("az", -1);
        name("abcdefg", -1);
        name("abcdefgh", -1);
        name("z9999999", -1);
        name("abcdefghi", 8);
        name("abcdefgh9", 8);
        name("abcdefghijklm", 8);
        name("0a", 0);
        name("9a", 0);
        name("`", 0);
        name("{", 0);
        name("A", 0);
        name("Z", 0);
        name("_", 0);
        name("a`", 1);
        name("a/", 1);
        name("aA", 1);
        name("aZ", 1);
        name("a_", 1);
        name("a@", 1);
        name("abcdefghA", 8);
        Check.same(": behind a name", Check.form("gap#a:"), -1 - 5);
        Check.same("a wrong word of nine signs", Check.form("gapgapgap"), -1 - 8);
        Check.same("a wrong word of eight signs", Check.form("gapgapga"), -1 - 0);
    }

    private static void number(String number, int fault) {
        int due = fault < 0 ? 1 : -1 - 9 - fault;
        Check.same("number " + number, Check.form("gap(bind=" + number + ")"), due);
        Check.same("value " + number, Check.style("*{line1:" + number + ";}"), -1 - 2);
        Check.same("value of wide " + number, Check.style("*{wide:" + number + ";}"), fault < 0 ? 1 : -1 - 7 - fault);
    }

    /** A NUMBER: 1 to 7 digits; an eighth can't be there. */
    private static void numbers() {
        number("0", -1);
        number("9", -1);
        number("15", -1);
        number("0000000", -1);
        number("0000015", -1);
        number("00000015", 7);
        number("99999999", 7);
        number("9999999", 0);
        number("000000015", 7);
        number("/", 0);
        number(":", 0);
        number("", 0);
        number("-1", 0);
        number("+1", 0);
        number("a", 0);
        number("1a", 1);
        number("1/", 1);
        number("1:", 1);
        Check.same("of a shape", Check.tell(new ScreenKit(16, 16), "m0000001 0000256l1 1l2 2z").shape(1), 3);
        Check.same("eight digits", Check.tell(new ScreenKit(16, 16), "m00000001 1l1 1l2 2z").shape(1), -1 - 8);
        Check.same("eight digits that could be two numbers", Check.tell(new ScreenKit(16, 16), "m00000011l1 1l2 2z").shape(1),
            -1 - 8);
        Check.same("behind do", Check.form("button(do=0000015+0000999)"), 1);
        Check.same("eight digits behind do", Check.form("button(do=00000015+1)"), -1 - 17);
        Check.same("eight digits behind +", Check.form("button(do=15+00000001)"), -1 - 20);
    }

    /** A FAULT is the first sign, from the left, that can't be there or with which what can't be begins. */
    private static void firstFault() {
        Check.same("two wrong words", Check.form("row{abc def}"), -1 - 4);
        Check.same("a wrong number ahead of a wrong word", Check.form("gap(bind=16,foo=1)"), -1 - 9);
        Check.same("a wrong word ahead of a wrong number", Check.form("gap(foo=1,bind=16)"), -1 - 4);
        Check.same("a name a second time ahead of a missing }", Check.form("row#a{gap#a"), -1 - 10);
        Check.same("ninth sign ahead of a name a second time", Check.form("row#abcdefgh{gap#abcdefghi"), -1 - 25);
        Check.same("a name a second time: its first sign", Check.form("row#ab{gap#ab}"), -1 - 11);
        Check.same("a wrong state ahead of a wrong property", Check.style("row:hoved{foo:1;}"), -1 - 4);
        Check.same("ninth sign of a state", Check.style("row:hoverhover{foo:1;}"), -1 - 12);
        Check.same("ninth sign of a property", Check.style("row{propertyx:1;}"), -1 - 12);
        Check.same("eighth digit ahead of a number outside", Check.style("row{pad:12345678;}"), -1 - 15);
        Check.same("seven digits outside", Check.style("row{pad:1234567;}"), -1 - 8);
    }

    /** The tape's length, if something is missing there. */
    private static void missing() {
        String[] forms = {"", "row{", "row{gap", "row{gap ", "row{row{}", "gap#", "gap.", "gap.a.", "gap(", "gap(bind", "gap(bind=",
            "gap(bind=1", "gap(bind=1,", "gap\"", "gap\"abc", "button(do=", "button(do=1", "button(do=1+", "button(do=1+1",
            "scroll{", "scroll{gap"};
        for (String form : forms) {
            Check.same("missing in " + form, Check.form(form), -1 - form.length());
        }
        String[] styles = {"row", "row,", "row ", "row>", "row.", "row#", "row:", "row{", "row{pad", "row{pad:", "row{pad:1",
            "row{pad:1;", "row{ink:0000000", "row{ink:00000000"};
        for (String style : styles) {
            Check.same("missing in " + style, Check.style(style), -1 - style.length());
        }
        String[] shapes = {"m", "m1", "m1 ", "m1 1", "m1 1l", "m1 1l2 2l3 3", "m1 1q1 1", "m1 1q1 1 2", "m1 1q1 1 2 2"};
        for (String shape : shapes) {
            Check.same("missing in " + shape, Check.tell(new ScreenKit(16, 16), shape).shape(1), -1 - shape.length());
        }
        Check.same("missing in a tongue", Check.tell(new ScreenKit(16, 16), "a").tongue(), -2);
        Check.same("missing behind an insert", Check.tell(Check.made(16, 16, "row", ""), "row{gap").insert(0, 0), -8);
    }

    /** Behind a fault all else is as it was: good parts ahead of it leave nothing. */
    private static void nothingLeft() {
        ScreenKit kit = EdgeCallsTest.rich();
        kit.paint();
        String was = Check.all(kit);
        String[] rules = {"*{pad:9;hide:1;}row{pad:", "*{pad:9;}foo{}", "*{pad:9;}*{pad:10;}"};
        String[] forms = {"row#x{gap label\"x\" gap#x}", "tabs(bind=1){gap", "gap gap", ""};
        String[] shapes = {"m0 0l256 0l256 256l0 256zm", "m0 0l256 0l256 256l0 256z5", "m0 0l256 0l256 256z m0 0l1 1z"};
        String[] lines = {"x,y,z\n1,2,3\n4,5,6,7,8", "q\n123456789"};
        String[] tongues = {"one=changed\ntwo=changed\none=", "one=changed\ntwo"};
        for (String rule : rules) {
            Check.same("a fault", Check.style(kit, rule) < 0 ? 1 : 0, 1);
        }
        for (String form : forms) {
            Check.same("a fault", Check.form(kit, form) < 0 ? 1 : 0, 1);
            Check.same("a fault", Check.tell(kit, form).insert(0, 0) < 0 ? 1 : 0, 1);
        }
        for (String shape : shapes) {
            Check.same("a fault", Check.tell(kit, shape).shape(1) < 0 ? 1 : 0, 1);
        }
        for (String line : lines) {
            Check.same("a fault", Check.tell(kit, line).data() < 0 ? 1 : 0, 1);
        }
        for (String tongue : tongues) {
            Check.same("a fault", Check.tell(kit, tongue).tongue() < 0 ? 1 : 0, 1);
        }
        Check.same("all else", Check.all(kit), was);
        Check.same("nothing is dirty", kit.paint(), 0);
    }

    /** Refusals: -2, -4, -5; the first of these. */
    private static void firstRefusal() {
        ScreenKit kit = Check.made(16, 16, "row{gap button}", "");
        Check.same("no widget, no property, no ticks", kit.move(3, 9, 1, 0), -2);
        Check.same("no property, no ticks", kit.move(2, 9, 1, 0), -4);
        Check.same("no widget, of another kind", kit.text(3), -2);
        Check.same("of another kind", kit.text(1), -5);
        Check.same("no image, of another size", kit.blend(1, 5, 1), -4);
        kit.image(1, 2, 2);
        Check.same("no blend, of another size", kit.blend(1, 2, 12), -4);
        Check.same("of another size", kit.blend(1, 2, 11), -5);
        Check.same("no widget to focus", kit.focus(3), -2);
        Check.same("of a kind that can't", kit.focus(1), -5);
        Check.same("no widget to remove", kit.remove(3), -2);
        Check.same("widget 0", kit.remove(0), -5);
        for (int n = 0; n < 6; n++) {
            Check.same("a move", kit.move(1, 3 + n, 1, 9), 1);
        }
        kit.move(2, 3, 1, 9);
        kit.move(2, 4, 1, 9);
        Check.same("no widget, eight moves", kit.move(-1, 5, 1, 9), -2);
        Check.same("no property, eight moves", kit.move(2, 2, 1, 9), -4);
        Check.same("eight moves", kit.move(2, 5, 1, 9), -1);
    }

    public static void main(String[] args) {
        room();
        bytes();
        taking();
        leaving();
        words();
        numbers();
        firstFault();
        missing();
        nothingLeft();
        firstRefusal();
        Check.end("EdgeTapeTest");
    }
}
