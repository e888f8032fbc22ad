/** Points 17 and 18 of the document and promises 38 to 42: spoken, inserted, removed, written, counted; edge by edge. */
public final class EdgeDesignTest {
    private static final String[] KINDS = {"row", "col", "grid", "stack", "flow", "scroll", "label", "button", "check",
        "radio", "field", "slider", "list", "gap", "tabs", "dialog", "tree", "table", "picture"};

    private static void spoken(String form, int cell, String due) {
        ScreenKit kit = new ScreenKit(60, 60);
        Check.tell(kit, "w=Ab c\nv=").tongue();
        Check.tell(kit, "h\n1\n2").data();
        kit.put(1, cell);
        Check.form(kit, "row{" + form + "}");
        Check.same(form + " at " + cell, Check.spoken(kit, 1), due);
        int n = due.length();
        Check.same("no sign more", kit.spoken(1, n) + kit.spoken(1, -1) + kit.spoken(1, Integer.MAX_VALUE), -3);
        if (n > 0) {
            Check.same("the last one", kit.spoken(1, n - 1), due.charAt(n - 1));
        }
        kit.able(1, true);
        Check.same("off", Check.spoken(kit, 1), due.isEmpty() ? "" : due + " off");
        kit.able(1, false);
        kit.able(0, true);
        Check.same("off around", Check.spoken(kit, 1), due.isEmpty() ? "" : due + " off");
        kit.able(0, false);
        if (kit.focus(1) == 1) {
            Check.same("focus", Check.spoken(kit, 1), due + " focus");
        }
        Check.style(kit, "row{hide:1;}");
        Check.same("a hidden one", Check.spoken(kit, 1), "");
    }

    /** SPOKEN: the kind's word; a text, a value, a row's number, a blank ahead; then " checked", " focus", " off". */
    private static void speaking() {
        for (int k = 0; k < KINDS.length; k++) {
            boolean dialog = k == 15;
            boolean told = k >= 6 && k <= 10;
            String tail = k == 11 ? " 0" : "";
            spoken(KINDS[k] + "\"\"", 0, dialog ? "" : KINDS[k] + tail);
            spoken(KINDS[k] + "\"x y\"", 0, dialog ? "" : KINDS[k] + (told ? " x y" : tail));
            spoken(KINDS[k] + "\"@w\"", 0, dialog ? "" : KINDS[k] + (k == 10 ? " @w" : told ? " Ab c" : tail));
            spoken(KINDS[k] + "\"@v\"", 0, dialog ? "" : KINDS[k] + (k == 10 ? " @v" : tail));
        }
        int[] values = {0, 1, 9, 10, -1, -9, -10, 99, 100, 1000000000, Integer.MAX_VALUE, Integer.MIN_VALUE};
        for (int v : values) {
            spoken("slider(bind=1,least=3,most=7)", v, "slider " + v);
            spoken("slider(least=3)", v, "slider 3");
            spoken("list(bind=1,rows=10)", v, v >= 0 && v < 10 ? "list " + v : "list");
            spoken("tree(bind=1)\"ab\"", v, v >= 0 && v < 2 ? "tree " + v : "tree");
            spoken("table(bind=1)", v, v >= 0 && v < 2 ? "table " + v : "table");
            spoken("tabs(bind=1){gap gap}", v, v >= 0 && v < 2 ? "tabs " + v : "tabs");
            spoken("check(bind=1)\"x\"", v, v != 0 ? "check x checked" : "check x");
            spoken("radio(bind=1,pick=9)", v, v == 9 ? "radio checked" : "radio");
            spoken("scroll(bind=1)", v, "scroll");
            spoken("dialog(bind=1)", v, v == 0 ? "" : "dialog");
            spoken("gap(bind=1)", v, "gap");
        }
        spoken("list(bind=1,rows=1000000)", 999999, "list 999999");
        spoken("list(rows=5)", 0, "list");
        spoken("tabs{gap}", 0, "tabs 0");
        spoken("tabs", 0, "tabs");
        ScreenKit kit = Check.made(60, 60, "tabs{field\"@w\" check(bind=1)\"@w\"}", "");
        Check.tell(kit, "w=abc").tongue();
        Check.same("a field as a page", Check.spoken(kit, 1), "field @w");
        Check.same("a page that isn't chosen", Check.spoken(kit, 2), "");
        kit.focus(1);
        kit.key('!', false);
        Check.same("as it stands in it", Check.spoken(kit, 1), "field @w! focus");
        Check.same("no widget", kit.spoken(3, 0) + kit.spoken(-1, 0), -2);
        kit = Check.made(60, 60, "row{check(bind=1)\"x\"}", "");
        kit.put(1, 1);
        kit.focus(1);
        Check.same("checked, focus", Check.spoken(kit, 1), "check x checked focus");
    }

    private static void inserted(String form, int w, int at, String text, int due, String written) {
        ScreenKit kit = Check.made(60, 60, form, "");
        String was = Check.written(kit);
        Check.same("insert of " + text + " at " + at + " of " + w + " in " + form, Check.tell(kit, text).insert(w, at), due);
        Check.same("written behind it", Check.written(kit), written == null ? was : written);
        Check.same("the tape", kit.count(0), 0);
    }

    /** insert(): as child number at of a box; no box, no such place: -100000. */
    private static void places() {
        inserted("row{gap gap}", 0, 0, "col", 1, "row{col gap gap}");
        inserted("row{gap gap}", 0, 1, "col", 2, "row{gap col gap}");
        inserted("row{gap gap}", 0, 2, "col", 3, "row{gap gap col}");
        inserted("row{gap gap}", 0, 3, "col", -100000, null);
        inserted("row{gap gap}", 0, -1, "col", -100000, null);
        inserted("row{gap gap}", 1, 0, "col", -100000, null);
        inserted("row{gap gap}", 3, 0, "col", -100000, null);
        inserted("row{gap gap}", -1, 0, "col", -100000, null);
        inserted("row", 0, 0, "col", 1, "row{col}");
        inserted("row", 0, 1, "col", -100000, null);
        inserted("scroll", 0, 0, "col", 1, "scroll{col}");
        inserted("scroll", 0, 1, "col", -100000, null);
        inserted("scroll{gap}", 0, 0, "col", -100000, null);
        inserted("scroll{gap}", 0, 1, "col", -100000, null);
        inserted("row{row{gap} gap}", 1, 1, "col{gap}", 3, "row{row{gap col{gap}} gap}");
        inserted("row{row{gap} gap}", 0, 1, "col{gap}", 3, "row{row{gap} col{gap} gap}");
        for (int k = 0; k < KINDS.length; k++) {
            boolean box = k <= 5 || k == 14 || k == 15;
            inserted("row{" + KINDS[k] + "}", 1, 0, "gap", box ? 2 : -100000, box ? "row{" + KINDS[k] + "{gap}}" : null);
            inserted("row", 0, 0, KINDS[k], 1, "row{" + KINDS[k] + "}");
        }
        ScreenKit kit = new ScreenKit(20, 20);
        Check.same("without a form", Check.tell(kit, "gap").insert(0, 0) * 10 + kit.count(0), -1000000);
    }

    /** FAULTS as in forms, with all that is there: names, 60 widgets, boxes in one another. */
    private static void faults() {
        inserted("row#a{gap#b}", 0, 0, "gap#c", 1, "row#a{gap#c gap#b}");
        inserted("row#a{gap#b}", 0, 0, "gap#a", -1 - 4, null);
        inserted("row#a{gap#b}", 0, 0, "gap#b", -1 - 4, null);
        inserted("row#a{gap#b}", 0, 0, "row#c{gap#b}", -1 - 10, null);
        inserted("row#a{gap#b}", 0, 0, "row#c{gap#c}", -1 - 10, null);
        inserted("row#a{gap#b}", 0, 0, "gap.a.b", 1, "row#a{gap.a.b gap#b}");
        inserted("row", 0, 0, "", -1, null);
        inserted("row", 0, 0, " ".repeat(2999), -3000, null);
        inserted("row", 0, 0, " ".repeat(3000), -3001, null);
        inserted("row", 0, 0, "gap gap", -1 - 4, null);
        inserted("row", 0, 0, "gap,", -1 - 3, null);
        inserted("row", 0, 0, "foo", -1, null);
        inserted("row", 0, 0, " gap\n", 1, "row{gap}");
        inserted("row", 0, 0, "scroll{gap gap}", -1 - 11, null);
        inserted("scroll", 0, 0, "scroll{gap gap}", -1 - 11, null);
        inserted("scroll", 0, 0, "gap gap", -1 - 4, null);
        String many = "gap ".repeat(57);
        inserted("row{" + many + "gap}", 0, 0, "gap", 1, "row{gap " + many + "gap}");
        inserted("row{" + many + "gap}", 0, 0, "row{gap}", -1 - 4, null);
        inserted("row{" + many + "}", 0, 0, "row{gap}", 1, "row{row{gap} " + many.trim() + "}");
        inserted("row{" + many + "gap gap}", 0, 0, "gap", -1, null);
        inserted("row{" + many + "gap gap}", 0, 0, " gap", -2, null);
        inserted("row{" + many + "gap gap}", 0, 0, "foo", -1, null);
        inserted("row{" + many + "gap gap}", 0, 0, "abcdefgh", -1, null);
        inserted("row{" + many + "gap gap}", 0, 0, "abcdefghi", -1 - 8, null);
        inserted("row{" + many + "gap gap}", 0, 0, "5", -1, null);
        inserted("row{" + many + "gap gap}", 0, 0, "", -1, null);
        String nine = "row{".repeat(8) + "row" + "}".repeat(8);
        String ten = "row{".repeat(9) + "row" + "}".repeat(9);
        String eleven = "row{".repeat(10) + "row" + "}".repeat(10);
        inserted(nine, 8, 0, "row{gap}", 9, "row{".repeat(10) + "gap" + "}".repeat(10));
        inserted(nine, 8, 0, "row{row}", 9, "row{".repeat(10) + "row" + "}".repeat(10));
        inserted(nine, 8, 0, "row{row{gap}}", -1 - 7, null);
        inserted(ten, 9, 0, "gap", 10, "row{".repeat(10) + "gap" + "}".repeat(10));
        inserted(ten, 9, 0, "row", 10, eleven);
        inserted(ten, 9, 0, "row{gap}", -1 - 3, null);
        inserted(ten, 9, 0, "row {gap}", -1 - 4, null);
        inserted(eleven, 10, 0, "gap", -1, null);
        inserted(eleven, 10, 0, " gap", -2, null);
        inserted(eleven, 10, 0, "abcdefgh", -1, null);
        inserted(eleven, 10, 0, "abcdefghi", -1 - 8, null);
        inserted(eleven, 9, 0, "gap", 10, "row{".repeat(10) + "gap row" + "}".repeat(10));
    }

    /** The others keep all that they have, but numbers; a tabs' own choice stays. */
    private static void keeping() {
        ScreenKit kit = EdgeCallsTest.rich();
        int n = kit.count(1);
        String[] was = new String[n];
        for (int w = 0; w < n; w++) {
            was[w] = keeps(kit, w);
        }
        int[] held = {kit.count(5), kit.count(6), kit.count(7), kit.count(4)};
        Check.same("inserted", Check.tell(kit, "gap#q{}").insert(0, 0), -1 - 5);
        Check.same("inserted", Check.tell(kit, "row#q{gap}").insert(0, 0), 1);
        Check.same("two more", kit.count(1), n + 2);
        for (int w = 1; w < n; w++) {
            Check.same("kept by " + w, keeps(kit, w + 2), was[w]);
        }
        Check.same("focus, press, hover", kit.count(5) + "/" + kit.count(6) + "/" + kit.count(7), held[0] + 2 + "/" + (held[1] + 2) + "/"
            + (held[2] + 2));
        Check.same("moves", kit.count(4), held[3]);
        Check.same("removed", kit.remove(1), n);
        for (int w = 0; w < n; w++) {
            Check.same("kept by " + w, keeps(kit, w), was[w]);
        }
        kit = Check.made(40, 40, "tabs{gap#a gap#b gap#c}", "");
        kit.focus(0);
        kit.key(2, false);
        Check.tell(kit, "gap").insert(0, 0);
        Check.same("the choice is a number", kit.widget(0, 15) * 100 + kit.widget(1, 10) * 10 + kit.widget(2, 10), 110);
        kit.remove(1);
        kit.remove(1);
        Check.same("and stays one", kit.widget(0, 15) * 10 + kit.widget(2, 10), 10);
        kit.remove(2);
        Check.same("there is none", kit.widget(0, 15), -1);
        Check.tell(kit, "gap").insert(0, 0);
        Check.same("there is one", kit.widget(0, 15) * 10 + kit.widget(2, 10), 10);
    }

    /** What a widget has, without its numbers and its place. */
    private static String keeps(ScreenKit kit, int w) {
        StringBuilder b = new StringBuilder(Check.letters(kit, w) + "/" + Check.shown(kit, w) + "/" + Check.spoken(kit, w));
        int[] what = {0, 2, 11, 12, 13, 14, 15};
        for (int i : what) {
            b.append(' ').append(kit.widget(w, i));
        }
        for (int i = 0; i < 5; i++) {
            b.append(' ').append(i == 2 ? 0 : kit.field(w, i));
        }
        return b.toString();
    }

    /** remove(): how many are there then; what is gone isn't pressed, focused or under the pointer; the button stays down. */
    private static void removing() {
        ScreenKit kit = Check.made(40, 40, "col{row{button gap} row{gap}}", "*{grow:1;}");
        Check.same("refused", kit.remove(6) + kit.remove(-1) + kit.remove(0), -9);
        Check.same("as it was", Check.written(kit), "col{row{button gap} row{gap}}");
        kit.point(3, 3);
        kit.down();
        Check.same("all in it", kit.remove(1), 3);
        Check.same("not pressed, focused, hovered", kit.count(5) + kit.count(6) + kit.count(7), -3);
        Check.same("written", Check.written(kit), "col{row{gap}}");
        Check.same("the other's place", Check.place(kit, 1), "0 0 40 40");
        Check.same("the button stays down", kit.down(), -5);
        Check.same("up", kit.up(), -1);
        Check.same("its child", kit.remove(2), 2);
        Check.same("a box without children", Check.written(kit), "col{row}");
        Check.same("the last but one", kit.remove(1), 1);
        Check.same("widget 0", kit.remove(0), -5);
        Check.same("it alone", Check.written(kit), "col");
        kit = Check.made(40, 40, "col{button.a button.b button.c}", "*{grow:1;}");
        kit.point(3, 39);
        kit.down();
        Check.same("another goes", kit.remove(2), 3);
        Check.same("the pressed one is another number", kit.count(6) * 100 + kit.count(5) * 10 + kit.count(7), 222);
        Check.same("up", kit.up(), 2);
        for (int n = 0; n < 3; n++) {
            Check.same("first, middle, last of three", kit.remove(n == 1 ? 2 : 1), 2);
            Check.tell(kit, "gap").insert(0, 1);
        }
        kit = Check.made(20, 20, "col{" + "gap ".repeat(59) + "}", "");
        Check.same("of sixty", kit.remove(59) * 100 + kit.remove(1), 5958);
        kit = Check.made(20, 20, "col{gap.a gap.b}", "gap{grow:1;}");
        kit.paint();
        kit.remove(1);
        Check.same("what was painted of it, and the one that is placed anew", kit.paint(), 400);
        kit.remove(1);
        Check.same("what was painted of the last", kit.paint(), 400);
        Check.tell(kit, "gap").insert(0, 0);
        kit.remove(1);
        Check.same("of one that wasn't painted nothing", kit.paint(), 0);
    }

    /** count(): each of its numbers. */
    private static void counting() {
        ScreenKit kit = EdgeCallsTest.rich();
        int pixels = kit.paint();
        Check.tell(kit, "abc");
        int[] due = {3, 20, 6, 6, 1, 10, 10, 10, 1, pixels, 2, 4, 2, -1};
        for (int what = 0; what < due.length; what++) {
            Check.same("count " + what, kit.count(what), due[what]);
        }
        kit.put(4, 1);
        Check.same("the top dialog", kit.count(13), 18);
        Check.same("none below", kit.count(-1) + kit.count(14) + kit.count(Integer.MIN_VALUE) + kit.count(Integer.MAX_VALUE), -4);
        pixels += kit.paint();
        Check.same("pixels in all", kit.count(9), pixels);
        kit.tick(1000);
        Check.same("ticks in all", kit.count(10), 1002);
        kit = new ScreenKit(20, 20);
        int[] first = {0, 0, 0, 0, 0, -1, -1, -1, 0, 0, 0, 0, 0, -1};
        for (int what = 0; what < first.length; what++) {
            Check.same("count " + what + " at first", kit.count(what), first[what]);
        }
    }

    /** WRITTEN of an object that is full, and again what is read of it. */
    private static void written() {
        StringBuilder b = new StringBuilder("row{");
        for (int i = 0; i < 57; i++) {
            b.append("gap#n").append(i).append(".abcdefgh.abcdefgh(off=1)\"").append("x".repeat(10)).append("\" ");
        }
        ScreenKit kit = new ScreenKit(20, 20);
        String form = b.toString().trim() + "}";
        Check.same("a long one", Check.form(kit, form), 58);
        Check.same("as it was told", Check.written(kit), form);
        Check.same("read again", Check.form(kit, Check.written(kit)), 58);
        kit = Check.made(20, 20, "row {\n gap   gap\nrow { } }", "");
        Check.same("blanks as they must be", Check.written(kit), "row{gap gap row}");
        kit = Check.made(20, 20, "field\"ab\"", "");
        kit.focus(0);
        kit.key(8, false);
        Check.same("as it is now", Check.written(kit), "field\"a\"");
        kit.key(8, false);
        Check.same("empty", Check.written(kit), "field");
        kit.able(0, true);
        Check.same("off now", Check.written(kit), "field(off=1)");
        Check.form(kit, "label(off=1)\"a\"");
        kit.able(0, false);
        Check.tell(kit, "x~ y").text(0);
        Check.same("another text, not off", Check.written(kit), "label\"x~ y\"");
        kit.text(0);
        Check.same("no text", Check.written(kit), "label");
    }

    public static void main(String[] args) {
        speaking();
        places();
        faults();
        keeping();
        removing();
        counting();
        written();
        Check.end("EdgeDesignTest");
    }
}
