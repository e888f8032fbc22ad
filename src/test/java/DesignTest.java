/** Promises 38 to 41: what is spoken, inserted, removed and written. */
public final class DesignTest {
    private static void spoken() {
        ScreenKit kit = new ScreenKit(60, 64);
        Check.tell(kit, "hi=HI you").tongue();
        Check.tell(kit, "h\nx\ny\n").data();
        Check.form(kit, "col#c{label\"@hi\" label button\"Go\" check(bind=1)\"c\" radio(bind=1,pick=2) field\"@hi\" "
            + "slider(bind=2,least=5) slider(least=5) list(rows=9,bind=3) list(rows=9) tree(bind=4)\"ab\" table(bind=5) "
            + "tabs{field\"@hi\" gap} picture gap\"x\" row dialog}");
        Check.same("no widget", kit.spoken(99, 0) + kit.spoken(-1, 0), -2);
        String[] due = {"col", "label HI you", "label", "button Go", "check c", "radio", "field @hi", "slider 0", "slider 5",
            "list 0", "list", "tree 0", "table 0", "tabs 0", "field @hi", "", "picture", "gap", "row", ""};
        for (int w = 0; w < due.length; w++) {
            Check.same("spoken of " + w, Check.spoken(kit, w), due[w]);
        }
        Check.same("no sign", kit.spoken(0, 3) + kit.spoken(0, -1), -2);
        kit.put(1, 2);
        kit.put(2, Integer.MIN_VALUE);
        kit.put(3, 9);
        kit.put(4, 1);
        kit.put(5, -1);
        kit.able(4, true);
        kit.focus(5);
        Check.same("checked, off", Check.spoken(kit, 4), "check c checked off");
        Check.same("checked, focus", Check.spoken(kit, 5), "radio checked focus");
        Check.same("not held", Check.spoken(kit, 7), "slider -2147483648");
        kit.put(2, Integer.MAX_VALUE);
        Check.same("nor at most", Check.spoken(kit, 7), "slider 2147483647");
        kit.put(2, -10);
        Check.same("below 0", Check.spoken(kit, 7), "slider -10");
        Check.same("none", Check.spoken(kit, 9), "list");
        Check.same("a node", Check.spoken(kit, 11), "tree 1");
        Check.same("none of a table", Check.spoken(kit, 12), "table");
        kit.able(13, true);
        Check.same("off around", Check.spoken(kit, 14), "field @hi off");
        kit.focus(6);
        kit.key('!', false);
        Check.same("as it stands", Check.spoken(kit, 6), "field @hi! focus");
        kit.key(3, true);
        kit.key(8, false);
        Check.same("empty", Check.spoken(kit, 6), "field focus");
        Check.style(kit, "col{hide:1;}");
        Check.same("a hidden one", kit.spoken(1, 0), -1);
    }

    private static void writtenAs(String form, String due) {
        ScreenKit kit = new ScreenKit(60, 64);
        Check.form(kit, form);
        Check.same("written", Check.written(kit), due);
        ScreenKit other = new ScreenKit(60, 64);
        Check.same("read again", Check.form(other, due), kit.count(1));
        Check.same("to the same", Check.written(other), due);
    }

    private static void written() {
        writtenAs("gap", "gap");
        writtenAs("row { gap label \"x\" }", "row{gap label\"x\"}");
        writtenAs("row{}", "row");
        writtenAs("row#a.b.c.d{col{gap} stack{} scroll{flow{gap}}}", "row#a.b.c.d{col{gap} stack scroll{flow{gap}}}");
        writtenAs("grid(cols=2,bind=0,least=0,most=99,off=0){gap}", "grid(bind=0){gap}");
        writtenAs("grid(most=1,off=1,least=2,bind=15,cols=8)", "grid(cols=8,bind=15,least=2,most=1,off=1)");
        writtenAs("list(off=1,rows=1000000)", "list(rows=1000000,off=1)");
        writtenAs("radio(off=1,pick=7)", "radio(pick=7,off=1)");
        writtenAs("field(off=1,wide=40)\"a b\"", "field(wide=40,off=1)\"a b\"");
        writtenAs("label(off=1,wrap=1)", "label(wrap=1,off=1)");
        writtenAs("picture(img=4,off=1)", "picture(off=1,img=4)");
        writtenAs("button.x(do=0=0,off=1)\"\"", "button.x(off=1,do=0=0)");
        writtenAs("col{button(do=15+999) button(do=3-4) label(wrap=0) field(wide=8)}",
            "col{button(do=15+999) button(do=3-4) label field}");
        ScreenKit kit = new ScreenKit(60, 64);
        Check.same("no form", kit.written(0), -1);
        Check.form(kit, "col{field\"a\" label(off=1)\"x\" tree\"a(b)\"}");
        kit.focus(1);
        kit.key('z', false);
        kit.able(2, false);
        kit.able(3, true);
        Check.tell(kit, "@q").text(2);
        Check.same("as it is now", Check.written(kit), "col{field\"az\" label\"@q\" tree(off=1)\"a(b)\"}");
        Check.same("no sign", kit.written(-1) + kit.written(42), -2);
        Check.same("the last sign", kit.written(41), '}');
    }

    private static void insertIs(ScreenKit kit, int w, int at, String text, int due) {
        Check.same("insert " + text, Check.tell(kit, text).insert(w, at), due);
        Check.same("the tape", kit.count(0), 0);
    }

    private static void inserting() {
        ScreenKit kit = new ScreenKit(60, 64);
        insertIs(kit, 0, 0, "gap", -100000);
        Check.form(kit, "row{gap#a scroll{gap} scroll}");
        insertIs(kit, 5, 0, "gap", -100000);
        insertIs(kit, -1, 0, "gap", -100000);
        insertIs(kit, 1, 0, "gap", -100000);
        insertIs(kit, 0, 4, "gap", -100000);
        insertIs(kit, 0, -1, "gap", -100000);
        insertIs(kit, 2, 0, "gap", -100000);
        insertIs(kit, 2, 1, "gap", -100000);
        insertIs(kit, 0, 0, "", -1);
        insertIs(kit, 0, 0, "gap gap", -5);
        insertIs(kit, 0, 0, "gap#a", -5);
        insertIs(kit, 0, 0, "row#b{gap#b}", -11);
        Check.same("as it was", Check.written(kit), "row{gap#a scroll{gap} scroll}");
        insertIs(kit, 0, 0, "gap#b", 1);
        insertIs(kit, 0, 4, "label", 6);
        insertIs(kit, 0, 2, "row { gap } ", 3);
        insertIs(kit, 3, 1, "col", 5);
        insertIs(kit, 8, 0, "gap#c", 9);
        Check.same("all", Check.written(kit), "row{gap#b gap#a row{gap col} scroll{gap} scroll{gap#c} label}");
        Check.same("numbers", kit.count(1), 11);
        Check.same("parents", kit.widget(9, 1) * 100 + kit.widget(5, 1) * 10 + kit.widget(5, 3), 831);
        Check.form(kit, "row{" + "gap ".repeat(58) + "}");
        insertIs(kit, 0, 0, "row{gap}", -5);
        insertIs(kit, 0, 0, "row{abcdefghi}", -1 - 12);
        insertIs(kit, 0, 58, "gap", 59);
        insertIs(kit, 0, 0, "gap", -1);
        insertIs(kit, 0, 0, "abcdefghi", -1 - 8);
        Check.form(kit, "row{".repeat(9) + "row" + "}".repeat(9));
        insertIs(kit, 9, 0, "row{gap}", -1 - 3);
        insertIs(kit, 8, 0, "row{row{gap}}", -1 - 7);
        insertIs(kit, 9, 0, "row", 10);
        insertIs(kit, 10, 0, "gap", -1);
        insertIs(kit, 10, 0, "abcdefghi", -1 - 8);
    }

    private static void keeping() {
        ScreenKit kit = new ScreenKit(60, 64);
        Check.form(kit, "col{field\"ab\" list(rows=9) tree\"a(b)c\" scroll{gap.g} gap}");
        Check.style(kit, ".g{tall:64;}");
        kit.point(5, 8);
        kit.wheel(2);
        kit.down();
        kit.up();
        kit.point(5, 31);
        kit.down();
        kit.up();
        kit.focus(1);
        kit.key('x', false);
        kit.point(3, 3);
        kit.down();
        Check.tell(kit, "gap#n").insert(0, 0);
        Check.same("pressed, focused, hovered", kit.count(5) * 100 + kit.count(6) * 10 + kit.count(7), 222);
        Check.same("the text", Check.letters(kit, 2) + kit.field(2, 3), "abx1");
        Check.same("the list", kit.widget(3, 14) * 10 + kit.widget(3, 15), 22);
        Check.same("the tree", kit.widget(4, 14) + kit.shown(4, 1), 1);
        kit.key('y', false);
        kit.key('z', false);
        Check.same("steps go on", kit.field(2, 3), 2);
        Check.same("no widget", kit.remove(9) + kit.remove(-1), -4);
        Check.same("widget 0", kit.remove(0), -5);
        Check.same("a list goes", kit.remove(3), 7);
        Check.same("still", kit.count(5) * 100 + kit.count(6) * 10 + kit.count(7), 222);
        Check.same("the field goes", kit.remove(2), 6);
        Check.same("nothing is", kit.count(5) + kit.count(6) + kit.count(7), -3);
        Check.same("the button stays down", kit.down(), -5);
        Check.same("nothing is clicked", kit.up(), -1);
        Check.same("a box with what is in it", kit.remove(3), 4);
        Check.same("what is left", Check.written(kit), "col{gap#n tree\"a(b)c\" gap}");
        Check.form(kit, "col{scroll{button}}");
        kit.point(3, 3);
        Check.same("under the pointer", kit.count(7), 2);
        kit.remove(1);
        Check.same("not what was in it", kit.count(7), -1);
        Check.same("no form of nothing", Check.written(kit), "col");
        Check.tell(kit, "gap").insert(0, 0);
        Check.same("a name is free again", Check.tell(kit, "gap#n").insert(0, 1), 2);
        kit.remove(2);
        Check.same("and again", Check.tell(kit, "gap#n").insert(0, 0), 1);
    }

    private static void dialogs() {
        ScreenKit kit = new ScreenKit(40, 40);
        kit.put(0, 1);
        Check.form(kit, "col{button dialog(bind=0){gap.a} row{dialog(bind=0){button.b dialog(bind=0){gap.c}}}}");
        Check.style(kit, ".a{wide:9;tall:9;}.b,.c{wide:5;tall:5;}");
        kit.paint();
        Check.same("the newest", kit.count(13), 7);
        Check.same("it goes", kit.remove(7), 7);
        Check.same("the next", kit.count(13), 5);
        kit.focus(6);
        Check.same("another goes", kit.remove(2), 5);
        Check.same("the top one stays", kit.count(13) * 10 + kit.count(5), 34);
        Check.same("what it was, and the one that is open", kit.paint(), 81);
        Check.same("all of them go", kit.remove(2), 2);
        Check.same("none", kit.count(13), -1);
        Check.same("the other is reached again", kit.focus(1), 1);
        Check.same("what it was, and the button", kit.paint(), 240 + 30);
        Check.tell(kit, "dialog(bind=0){gap.a}").insert(0, 0);
        Check.same("a new one", kit.count(13) * 10 + kit.count(5), 9);
    }

    private static void dirty() {
        ScreenKit kit = new ScreenKit(20, 20);
        Check.form(kit, "col{gap.a row{gap.b} gap.c}");
        Check.style(kit, ".a{tall:4;}.b{wide:6;tall:5;}.c{tall:3;grow:1;}");
        kit.paint();
        kit.remove(4);
        Check.same("what was painted of it", kit.paint(), 20 * 11);
        kit.remove(2);
        Check.same("a row", kit.paint(), 20 * 5);
        Check.tell(kit, "gap.b").insert(0, 0);
        Check.same("a new one, and one that is moved", kit.paint(), 20 * 9);
        kit.remove(1);
        Check.tell(kit, "gap.b").insert(0, 0);
        Check.same("another one in its place", kit.paint(), 20 * 5);
        kit.remove(1);
        kit.remove(1);
        Check.same("both", kit.paint(), 20 * 9);
    }

    public static void main(String[] args) {
        spoken();
        written();
        inserting();
        keeping();
        dialogs();
        dirty();
        Check.end("DesignTest");
    }
}
