/** Point 1 of the document and promises 3, 13, 14: forms and cells, edge by edge. */
public final class EdgeFormTest {
    private static final String[] KINDS = {"row", "col", "grid", "stack", "flow", "scroll", "label", "button", "check",
        "radio", "field", "slider", "list", "gap", "tabs", "dialog", "tree", "table", "picture"};

    private static String times(String text, int n) {
        return text.repeat(n);
    }

    private static void fault(String text, int place) {
        Check.same("form " + text, Check.form(text), -1 - place);
    }

    private static void good(String text, int widgets) {
        Check.same("form " + text, Check.form(text), widgets);
    }

    private static boolean isBox(int kind) {
        return kind <= 5 || kind == 14 || kind == 15;
    }

    /** form() reads one widget. */
    private static void one() {
        good("gap", 1);
        fault("", 0);
        fault("gap gap", 4);
        fault("gap,gap", 3);
        fault("gap;", 3);
        fault("gap}", 3);
        fault("row{gap}}", 8);
        fault("row{gap} gap", 9);
        fault("gap\"x\"\"y\"", 6);
        fault("gap(bind=1)(off=1)", 11);
        fault("row{gap}{gap}", 8);
        fault("gap(bind=1)#a", 11);
        fault("gap\"x\".a", 6);
        for (int k = 0; k < KINDS.length; k++) {
            good(KINDS[k], 1);
            Check.same("kind " + k, Check.made(20, 20, KINDS[k], "").widget(0, 0), k);
            fault(KINDS[k] + "s", 0);
            fault(KINDS[k].substring(1), 0);
        }
    }

    /** Perhaps # and a NAME, not twice in the form; up to three times . and a CLASS. */
    private static void namesAndClasses() {
        good("row#a{gap#b gap#ab gap#a1}", 4);
        fault("row#a{gap#a}", 10);
        fault("row{gap#a row{gap#b gap#a}}", 24);
        good("row#a{gap.a gap.a}", 3);
        good("gap#row.row.row", 1);
        good("gap", 1);
        good("gap.a", 1);
        good("gap.a.b.c", 1);
        good("gap.a.a.a", 1);
        fault("gap.a.b.c.d", 9);
        fault("gap.a.b.c .d", 10);
        fault("gap#a#b", 5);
        fault("gap.a#b", 5);
        good("gap#a.b.c.d", 1);
        fault("gap#a.b.c.d.e", 11);
        ScreenKit kit = Check.made(20, 20, "gap.a.b.c", ".c{pad:1;}");
        Check.same("the third class", kit.styled(0, 4), 1);
    }

    /** Blanks may stand between all, not within words and numbers, nor behind # and . */
    private static void blanks() {
        String[] blanks = {"", " ", "\n", " \n \n"};
        for (String b : blanks) {
            good(String.join(b, "", "row", "#a", ".b", ".c", "(", "bind", "=", "1", ",", "off", "=", "1", ")", "\"x\"", "{",
                "button", "(", "do", "=", "1", "+", "2", ")", "}", ""), 2);
            good("row" + b + "{" + b + "}", 1);
        }
        fault("ro w", 0);
        fault("row# a", 4);
        fault("row#\na", 4);
        fault("row. a", 4);
        fault("row#a b", 6);
        fault("label(wr ap=1)", 6);
        fault("label(bind=1 5)", 13);
        fault("label(bind=1\n5)", 13);
        fault("button(do=1 5+1)", 12);
        Check.same("blanks in a text are signs", Check.letters(Check.made(20, 20, "label \" a  b \"", ""), 0), " a  b ");
    }

    private static void range(String kind, String attribute, int least, int most, int first) {
        String head = kind + "(" + attribute + "=";
        int place = head.length();
        good(head + least + ")", 1);
        good(head + most + ")", 1);
        if (least > 0) {
            fault(head + (least - 1) + ")", place);
        }
        fault(head + (most + 1) + ")", place);
        fault(head + "9999999)", place);
        fault(head + "99999999)", place + 7);
        fault(head + "-1)", place);
        fault(head + ")", place);
        fault(head + least + "," + attribute + "=" + least + ")", place + 1 + ("" + least).length());
        writtenAs(head + least + ")", least == first ? kind : head + least + ")");
        writtenAs(head + most + ")", most == first ? kind : head + most + ")");
        writtenAs(head + first + ")", kind);
        int other = first == most ? first - 1 : first + 1;
        writtenAs(head + other + ")", head + other + ")");
    }

    private static void writtenAs(String text, String due) {
        Check.same(text + " as it is written", Check.written(Check.made(20, 20, text, "")), due);
    }

    /** ATTRIBUTES: their numbers, and what they are without being told; each word once; one at least. */
    private static void attributes() {
        range("grid", "cols", 1, 8, 2);
        range("list", "rows", 0, 1000000, 0);
        range("radio", "pick", 0, 999, 0);
        range("field", "wide", 1, 40, 8);
        range("label", "wrap", 0, 1, 0);
        range("picture", "img", 1, 4, 1);
        for (String kind : KINDS) {
            range(kind, "least", 0, 999, 0);
            range(kind, "most", 0, 999, 99);
            range(kind, "off", 0, 1, 0);
            String head = kind + "(bind=";
            writtenAs(kind, kind);
            writtenAs(head + "0)", head + "0)");
            writtenAs(head + "15)", head + "15)");
            fault(head + "16)", head.length());
            fault(kind + "()", kind.length() + 1);
            fault(kind + "(,off=1)", kind.length() + 1);
            fault(kind + "(off=1,)", kind.length() + 7);
            fault(kind + "(off=1,,bind=1)", kind.length() + 7);
            fault(kind + "(off=1;bind=1)", kind.length() + 6);
            fault(kind + "(off=1,bind=1,off=1)", kind.length() + 14);
            fault(kind + "(off:1)", kind.length() + 4);
            fault(kind + "(of=1)", kind.length() + 1);
            good(kind + "(bind=1,least=2,most=3,off=1)", 1);
        }
        good("button(bind=1,least=2,most=3,off=1,do=1=1)", 1);
        Check.same("without bind", Check.made(20, 20, "check", "").widget(0, 12), -1);
        Check.same("bind 0", Check.made(20, 20, "check(bind=0)", "").widget(0, 12), 0);
        Check.same("bind 15", Check.made(20, 20, "check(bind=15)", "").widget(0, 12), 15);
    }

    /** An attribute that another kind has only is as a word that may not stand there. */
    private static void othersAttributes() {
        String[][] own = {{"grid", "cols=2"}, {"list", "rows=1"}, {"radio", "pick=1"}, {"field", "wide=2"}, {"label", "wrap=1"},
            {"picture", "img=2"}, {"button", "do=1+1"}};
        for (String[] o : own) {
            for (String kind : KINDS) {
                if (kind.equals(o[0])) {
                    good(kind + "(" + o[1] + ")", 1);
                } else {
                    fault(kind + "(" + o[1] + ")", kind.length() + 1);
                    fault(kind + "(off=1," + o[1] + ")", kind.length() + 7);
                }
            }
        }
    }

    /** do: a number 0 .. 15, one of + - =, a number 0 .. 999. */
    private static void doings() {
        writtenAs("button(do=0+0)", "button(do=0+0)");
        writtenAs("button(do=15-999)", "button(do=15-999)");
        writtenAs("button(do=7=1)", "button(do=7=1)");
        fault("button(do=16+1)", 10);
        fault("button(do=1+1000)", 12);
        String none = "*,:;<>.!|/)";
        for (int i = 0; i < none.length(); i++) {
            fault("button(do=1" + none.charAt(i) + "1)", 11);
        }
        fault("button(do=+1)", 10);
        fault("button(do=1+)", 12);
        fault("button(do=1+-1)", 12);
        fault("button(do=1+1,do=1+1)", 14);
        fault("button(do=1+1+1)", 13);
    }

    /** A TEXT: at most 40 signs 32 .. 126 but " */
    private static void texts() {
        good("label\"\"", 1);
        good("label\"" + times("x", 39) + "\"", 1);
        good("label\"" + times("x", 40) + "\"", 1);
        fault("label\"" + times("x", 41) + "\"", 46);
        fault("label\"" + times("x", 40), 46);
        fault("label\"a\nb\"", 7);
        fault("label\"\"\"", 7);
        for (int c = 32; c < 127; c++) {
            if (c != '"') {
                Check.same("sign " + c, Check.letters(Check.made(20, 20, "label\"" + (char) c + "\"", ""), 0), "" + (char) c);
            }
        }
        for (String kind : KINDS) {
            good(kind + "\"x\"", 1);
        }
    }

    /** Of boxes perhaps widgets in { }. */
    private static void boxes() {
        for (int k = 0; k < KINDS.length; k++) {
            int place = KINDS[k].length();
            if (isBox(k)) {
                good(KINDS[k] + "{gap}", 2);
                good(KINDS[k], 1);
                Check.same("one child", Check.made(20, 20, KINDS[k] + "{gap}", "").widget(0, 2), 1);
                fault(KINDS[k] + "{gap", place + 4);
                fault(KINDS[k] + "{gap,gap}", place + 4);
            } else {
                fault(KINDS[k] + "{gap}", place);
                fault(KINDS[k] + "{}", place);
            }
            if (isBox(k) && k != 5) {
                good(KINDS[k] + "{gap gap}", 3);
            }
        }
    }

    /** A scroll has one child at most: } must come behind it. */
    private static void scrolls() {
        good("scroll", 1);
        good("scroll{gap}", 2);
        good("scroll{ gap }", 2);
        good("scroll{scroll{scroll{gap}}}", 4);
        fault("scroll{gap gap}", 11);
        fault("scroll{gap\n\n}}", 13);
        fault("scroll{gap;", 10);
        fault("scroll{row{gap gap}gap}", 19);
        fault("scroll{gap", 10);
        fault("scroll{gap ", 11);
        good("row{scroll{gap} gap}", 4);
    }

    /** At most 60 widgets: the 61st's kind; the ninth sign of a word there comes ahead. */
    private static void sixty() {
        good("row{" + times("gap ", 58) + "}", 59);
        good("row{" + times("gap ", 59) + "}", 60);
        fault("row{" + times("gap ", 60) + "}", 4 + 59 * 4);
        fault("row{" + times("gap ", 59) + "row{gap}}", 4 + 59 * 4);
        fault("row{" + times("gap ", 59) + "foo}", 4 + 59 * 4);
        fault("row{" + times("gap ", 59) + "abcdefgh", 4 + 59 * 4);
        fault("row{" + times("gap ", 59) + "abcdefghi", 4 + 59 * 4 + 8);
        fault("row{" + times("gap ", 59) + "5", 4 + 59 * 4);
        fault("row{" + times("row{gap} ", 29) + "gap gap}", 4 + 29 * 9 + 4);
        good("row{" + times("row{gap} ", 29) + "gap}", 60);
        good(times("row{", 10) + times("gap ", 50) + times("}", 10), 60);
    }

    /** 10 boxes in one another: the 11th's {. */
    private static void ten() {
        good(times("row{", 9) + "gap" + times("}", 9), 10);
        good(times("row{", 10) + "gap" + times("}", 10), 11);
        good(times("row{", 10) + "row" + times("}", 10), 11);
        fault(times("row{", 10) + "row{}" + times("}", 10), 43);
        fault(times("row{", 10) + "row {gap}" + times("}", 10), 44);
        fault(times("row{", 11) + "gap" + times("}", 11), 43);
        fault(times("row{", 10) + "scroll{", 46);
        good("row{" + times("row{gap}", 20) + "}", 41);
        good("row{" + times(times("row{", 9) + times("}", 9), 3) + "}", 28);
        fault("row{" + times("row{", 9) + times("}", 9) + times("row{", 10), 4 + 45 + 39);
        good(times("row{", 10) + "gap" + times("}", 9) + times("row{", 9) + "gap" + times("}", 10), 21);
    }

    /** Widgets are numbered from 0 on, as they begin. */
    private static void order() {
        ScreenKit kit = new ScreenKit(20, 20);
        Check.form(kit, "col{row{label button} tabs{check} radio}");
        int[] kinds = {1, 0, 6, 7, 14, 8, 9};
        int[] parents = {-1, 0, 1, 1, 0, 4, 0};
        int[] kids = {3, 2, 0, 0, 1, 0, 0};
        int[] ranks = {0, 0, 0, 1, 1, 0, 2};
        for (int w = 0; w < 7; w++) {
            Check.same("kind of " + w, kit.widget(w, 0), kinds[w]);
            Check.same("parent of " + w, kit.widget(w, 1), parents[w]);
            Check.same("children of " + w, kit.widget(w, 2), kids[w]);
            Check.same("number of " + w, kit.widget(w, 3), ranks[w]);
        }
        Check.same("no more", kit.widget(7, 0), -1);
    }

    /** A form begins anew; cells, rules, data, tongue, clip, images, shapes, glyphs, ticks stay. */
    private static void anew() {
        ScreenKit kit = EdgeCallsTest.rich();
        Check.same("all is there", kit.count(5) >= 0 && kit.count(6) >= 0 && kit.count(7) >= 0 && kit.count(4) == 1 ? 1 : 0, 1);
        Check.form(kit, "col{field\"abc\" list(rows=9) tree\"a(b)c\" tabs{gap gap} table scroll{gap.tall}}");
        Check.same("none focused, pressed, hovered", kit.count(5) + kit.count(6) + kit.count(7), -3);
        Check.same("no move", kit.count(4), 0);
        Check.same("the button is up", kit.up(), -5);
        Check.same("the field's text", Check.letters(kit, 1), "abc");
        Check.same("no steps", kit.field(1, 3) + kit.field(1, 4), 0);
        Check.same("the caret at its end", kit.field(1, 0) * 10 + kit.field(1, 1), 33);
        Check.same("no row", kit.widget(2, 15), -1);
        Check.same("nothing scrolled", kit.widget(2, 14) + kit.widget(3, 14) + kit.widget(7, 14) + kit.widget(8, 14), 0);
        Check.same("no node", kit.widget(3, 15), -1);
        Check.same("closed", Check.shown(kit, 3), "0 2");
        Check.same("page 0", kit.widget(4, 15), 0);
        Check.same("cells stay", kit.cell(1), 1);
        Check.same("rules stay", kit.count(2) * 100 + kit.count(3), 606);
        Check.same("data stay", kit.count(11) * 10 + kit.count(12), 42);
        Check.same("the clip stays", Check.clip(kit), "x");
        Check.same("ticks stay", kit.count(10), 2);
        Check.same("shapes stay", kit.cover(1, 4, 4, 1, 1), 16);
        Check.same("images stay", kit.lanes(1, 1, 1), 0x80402010);
        ScreenKit other = new ScreenKit(40, 60);
        Check.tell(other, "a,b\n2\n1").data();
        Check.form(other, "col{table(bind=0) list(rows=20) scroll{gap.g} tree\"a(b)\" tabs{gap\"a\" gap\"b\"}}");
        Check.style(other, ".g{tall:60;}");
        Check.click(other, 3, 3);
        Check.tell(other, "1").filter(1);
        other.point(3, 20);
        other.wheel(3);
        Check.click(other, 3, 20);
        other.point(3, 47);
        other.wheel(3);
        Check.click(other, 1, 57);
        other.focus(6);
        other.key(2, false);
        Check.same("sorted, filtered", Check.shown(other, 1), "1");
        Check.same("turned, selected, chosen", other.widget(2, 14) * 100 + other.widget(2, 15) * 10 + other.widget(6, 15), 331);
        Check.form(other, "col{table(bind=0) list(rows=20) scroll{gap.g} tree\"a(b)\" tabs{gap\"a\" gap\"b\"}}");
        Check.same("not sorted, not filtered", Check.shown(other, 1), "0 1");
        Check.same("not turned", other.widget(2, 14) + other.widget(3, 14), 0);
        Check.same("not selected", other.widget(2, 15), -1);
        Check.same("not opened", Check.shown(other, 5), "0");
        Check.same("page 0", other.widget(6, 15), 0);
    }

    /** Cells are 0 at first; numbers of any size. */
    private static void cells() {
        ScreenKit kit = new ScreenKit(16, 16);
        int[] values = {Integer.MIN_VALUE, -1, 0, 1, Integer.MAX_VALUE};
        for (int c = 0; c < 16; c++) {
            Check.same("at first", kit.cell(c), 0);
            int was = 0;
            for (int v : values) {
                Check.same("what it was", kit.put(c, v), was);
                Check.same("what it is", kit.cell(c), v);
                was = v;
            }
        }
        Check.same("each its own", kit.put(0, 5) == Integer.MAX_VALUE && kit.cell(1) == Integer.MAX_VALUE ? 1 : 0, 1);
    }

    private static void checked(String form, int cell, int due) {
        ScreenKit kit = Check.made(20, 20, form, "");
        kit.put(0, cell);
        Check.same(form + " at " + cell, kit.widget(0, 11) & 8, due);
    }

    /** A check is CHECKED if its cell isn't 0, a radio if it is its pick; bound to none: never. */
    private static void shows() {
        int[] all = {Integer.MIN_VALUE, -1, 0, 1, 2, 999, 1000, Integer.MAX_VALUE};
        for (int v : all) {
            checked("check(bind=0)", v, v == 0 ? 0 : 8);
            checked("radio(bind=0,pick=1)", v, v == 1 ? 8 : 0);
            checked("radio(bind=0)", v, v == 0 ? 8 : 0);
            checked("radio(bind=0,pick=999)", v, v == 999 ? 8 : 0);
            checked("check", v, 0);
            checked("radio", v, 0);
            checked("radio(pick=1)", v, 0);
            checked("button(bind=0)", v, 0);
            checked("slider(bind=0)", v, 0);
            checked("list(bind=0,rows=5)", v, 0);
        }
    }

    /** A list's row, if it has such a row (bound to none: the one selected latest); others nothing. */
    private static void rows() {
        int[][] due = {{-1, -1}, {0, 0}, {2, 2}, {3, -1}, {Integer.MAX_VALUE, -1}, {Integer.MIN_VALUE, -1}};
        for (int[] d : due) {
            ScreenKit kit = Check.made(40, 40, "col{list(rows=3,bind=0) list(bind=0) scroll(bind=0) tree(bind=0)\"abc\" "
                + "tabs(bind=0){gap gap gap} gap(bind=0) slider(bind=0) dialog(bind=0)}", "");
            kit.put(0, d[0]);
            Check.same("row of a list at " + d[0], kit.widget(1, 15), d[1]);
            Check.same("a list without rows", kit.widget(2, 15), -1);
            Check.same("of a scroll", kit.widget(3, 15), -1);
            Check.same("node of a tree at " + d[0], kit.widget(4, 15), d[1]);
            Check.same("page of tabs at " + d[0], kit.widget(5, 15), d[1]);
            Check.same("of a gap, a slider, a dialog", kit.widget(9, 15) + kit.widget(10, 15) + kit.widget(11, 15), -3);
        }
        ScreenKit kit = Check.made(40, 40, "list(rows=3)", "");
        Check.same("none was selected", kit.widget(0, 15), -1);
        Check.click(kit, 3, 13);
        Check.same("the one selected latest", kit.widget(0, 15), 2);
    }

    /** SET: of a slider held to its least .. most, of others as it is; bound to none: nothing. */
    private static void set() {
        ScreenKit kit = Check.made(40, 60, "col{check(bind=1,least=5,most=7) radio(bind=2,pick=900,least=5,most=7) "
            + "list(bind=3,rows=4,least=2,most=1) tabs(bind=4,least=9,most=9){gap\"a\" gap\"b\"} tree(bind=5,most=0)\"ab\"}", "");
        kit.focus(1);
        kit.key(14, false);
        Check.same("a check as it is", kit.cell(1), 1);
        kit.focus(2);
        kit.key(14, false);
        Check.same("a radio as it is", kit.cell(2), 900);
        kit.focus(3);
        kit.key(4, false);
        Check.same("a list as it is", kit.cell(3), 3);
        kit.key(3, false);
        Check.same("also below least", kit.cell(3), 0);
        kit.focus(4);
        kit.key(2, false);
        Check.same("tabs as they are", kit.cell(4), 1);
        kit.focus(7);
        kit.key(4, false);
        Check.same("a tree as it is", kit.cell(5), 1);
        int[][] sliders = {{3, 9, 2, 2, 3}, {3, 9, 9, 2, 9}, {3, 9, 8, 2, 9}, {3, 9, 3, 1, 3}, {3, 9, 4, 1, 3}, {3, 9, 100, 1, 9},
            {3, 9, -100, 2, 3}, {9, 3, 5, 1, 9}, {9, 3, 5, 2, 9}, {0, 0, 5, 2, 0}, {0, 999, 998, 2, 999}, {0, 999, 999, 2, 999},
            {0, 999, Integer.MAX_VALUE, 2, 999}, {0, 999, Integer.MIN_VALUE, 1, 0}};
        for (int[] s : sliders) {
            ScreenKit one = Check.made(40, 40, "slider(bind=0,least=" + s[0] + ",most=" + s[1] + ")", "");
            one.put(0, s[2]);
            one.focus(0);
            one.key(s[3], false);
            Check.same("slider " + s[0] + " .. " + s[1] + " from " + s[2] + " by key " + s[3], one.cell(0), s[4]);
        }
        ScreenKit none = Check.made(40, 40, "slider(least=3)", "");
        none.focus(0);
        none.key(2, false);
        for (int c = 0; c < 16; c++) {
            Check.same("bound to none", none.cell(c), 0);
        }
    }

    public static void main(String[] args) {
        one();
        namesAndClasses();
        blanks();
        attributes();
        othersAttributes();
        doings();
        texts();
        boxes();
        scrolls();
        sixty();
        ten();
        order();
        anew();
        cells();
        shows();
        rows();
        set();
        Check.end("EdgeFormTest");
    }
}
