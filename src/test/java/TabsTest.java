/** Promises 7, 17 to 22, 42: tabs and their pages, dialogs, which is the top one and what can be reached. */
public final class TabsTest {
    private static void tabs() {
        ScreenKit kit = new ScreenKit(60, 40);
        // parts of 4 + 4, 5 + 4, 0 + 4
        Check.form(kit, "tabs(bind=1){col\"a\"{gap} label\"b\" button}");
        Check.same("least", Check.least(kit, 0), "21 8");
        Check.same("the chosen page", Check.place(kit, 1), "0 8 60 32");
        Check.same("hidden pages", kit.widget(1, 10) + 10 * kit.widget(3, 10) + 100 * kit.widget(4, 10), 110);
        Check.same("chosen", kit.widget(0, 15), 0);
        kit.put(1, 2);
        Check.same("by the cell", kit.widget(0, 15), 2);
        Check.same("another page", Check.place(kit, 4), "0 8 60 32");
        Check.same("hidden with what is in it", kit.widget(2, 10), 1);
        kit.put(1, 3);
        Check.same("none", kit.widget(0, 15), -1);
        Check.same("all hidden", kit.widget(1, 10) + 10 * kit.widget(3, 10) + 100 * kit.widget(4, 10), 111);
        kit.put(1, -1);
        Check.same("none either", kit.widget(0, 15), -1);
        int[][] due = {{0, 0}, {7, 0}, {8, 1}, {16, 1}, {17, 2}, {20, 2}};
        for (int[] d : due) {
            kit.put(1, -1);
            kit.point(d[0], 7);
            Check.same("pressed", kit.down(), 0);
            Check.same("the part at " + d[0], kit.cell(1), d[1]);
            kit.up();
        }
        kit.put(1, -1);
        Check.click(kit, 21, 3);
        Check.same("behind the parts", kit.cell(1), -1);
        Check.click(kit, 3, 8);
        Check.same("below the header", kit.cell(1), -1);
        kit.focus(0);
        kit.key(2, false);
        Check.same("of none page 0", kit.cell(1), 0);
        kit.key(1, false);
        Check.same("none ahead", kit.cell(1), 0);
        kit.key(2, false);
        kit.key(2, false);
        kit.key(2, false);
        Check.same("none behind", kit.cell(1), 2);
        kit.put(1, 9);
        kit.key(1, false);
        Check.same("of none page 0 too", kit.cell(1), 0);
        Check.style(kit, "tabs{dir:1;pad:1;}");
        kit.key(1, false);
        Check.same("turned", kit.cell(1), 1);
        kit.key(2, false);
        Check.same("turned back", kit.cell(1), 0);
        // the parts stand at 51 .. 58, 42 .. 50, 38 .. 41
        Check.click(kit, 50, 1);
        Check.same("turned parts", kit.cell(1), 1);
        Check.click(kit, 51, 8);
        Check.same("the first at the right", kit.cell(1), 0);
        Check.click(kit, 59, 1);
        Check.same("not in the frame", kit.cell(1), 0);
        Check.style(kit, "gap{wide:50;tall:9;}");
        Check.same("the page's least size", Check.least(kit, 0), "50 17");
        Check.style(kit, "col{hide:1;}");
        Check.same("a hidden page has none", Check.least(kit, 0), "21 8");
        Check.same("and is chosen", kit.widget(0, 15) + 10 * kit.widget(1, 10), 10);
    }

    private static void ownChoice() {
        ScreenKit kit = new ScreenKit(60, 40);
        Check.form(kit, "tabs{gap\"a\" gap\"b\" gap\"c\"}");
        Check.same("page 0 at first", kit.widget(0, 15), 0);
        Check.click(kit, 9, 0);
        Check.same("the one chosen latest", kit.widget(0, 15), 1);
        Check.tell(kit, "gap\"x\"").insert(0, 0);
        Check.same("the number stays", kit.widget(0, 15) + 10 * kit.widget(2, 10) + 100 * kit.widget(3, 10), 101);
        kit.focus(0);
        kit.key(2, false);
        kit.key(2, false);
        Check.same("the last", kit.widget(0, 15), 3);
        kit.remove(4);
        Check.same("there is none", kit.widget(0, 15), -1);
        Check.tell(kit, "gap").insert(0, 3);
        Check.same("there is one again", kit.widget(0, 15), 3);
    }

    private static void smallTabs() {
        ScreenKit kit = new ScreenKit(16, 16);
        Check.style(kit, "tabs{pad:6;}");
        Check.form(kit, "tabs{gap\"a\" gap\"b\"}");
        Check.same("the page has no room", Check.place(kit, 1), "6 14 4 0");
        Check.click(kit, 10, 7);
        Check.same("a part is seen in the content alone", kit.widget(0, 15), 0);
        Check.style(kit, "tabs{pad:3;}");
        Check.click(kit, 11, 3);
        Check.same("a part that is cut", kit.widget(0, 15), 1);
        Check.click(kit, 9, 11);
        Check.same("below the header", kit.widget(0, 15), 1);
    }

    private static void dialogs() {
        ScreenKit kit = new ScreenKit(40, 30);
        Check.form(kit, "col{button(do=0=1) dialog#d(bind=0){button(do=1=1) gap#g} dialog#e(bind=1){field} dialog#f{gap}}");
        Check.style(kit, "button{tall:6;}#d{pad:1;}#g{wide:11;tall:8;}");
        Check.same("closed", kit.widget(2, 10) + 10 * kit.widget(3, 10), 11);
        Check.same("its size", Check.place(kit, 2) + " " + Check.least(kit, 2), "0 0 0 0 0 0");
        Check.same("no top one", kit.count(13), -1);
        Check.same("passed over", Check.least(kit, 0), "0 6");
        kit.point(3, 3);
        kit.down();
        Check.same("clicked", kit.up(), 1);
        Check.same("open", kit.widget(2, 10), 0);
        Check.same("in the middle", Check.place(kit, 2), "13 10 13 10");
        Check.same("children as a stack's", Check.place(kit, 3) + "/" + Check.place(kit, 4), "14 11 11 8/14 11 11 8");
        Check.same("the top one", kit.count(13), 2);
        Check.same("others have no focus", kit.count(5), -1);
        Check.same("passed over in any case", Check.least(kit, 0), "0 6");
        Check.same("nothing else is found", kit.point(3, 3), -1);
        Check.same("itself", kit.point(13, 10), 2);
        Check.same("what is in it", kit.point(14, 11), 4);
        Check.same("focus beside it", kit.focus(1), -5);
        kit.key(13, false);
        Check.same("goes round in it", kit.count(5), 3);
        kit.key(13, false);
        Check.same("alone", kit.count(5), 3);
        kit.key(14, false);
        Check.same("another comes", kit.count(13), 5);
        Check.same("in the middle, half the rest", Check.place(kit, 5), "0 12 40 6");
        Check.same("others have no focus", kit.count(5), -1);
        kit.key(13, false);
        Check.same("a field", kit.count(5), 6);
        kit.put(0, 0);
        Check.same("one below closes", kit.count(13) * 10 + kit.count(5), 56);
        kit.put(0, 5);
        Check.same("it is the newest again", kit.count(13), 2);
        Check.same("what had the focus hasn't", kit.count(5), -1);
        Check.same("none had", kit.key(15, false), -1);
        Check.same("its cell becomes 0", kit.cell(0), 0);
        Check.same("the other is the top one", kit.count(13), 5);
        kit.focus(6);
        Check.same("had", kit.key(15, true), 6);
        Check.same("none is open", kit.count(13) * 10 + kit.cell(1), -10);
        Check.same("key 15 without one", kit.key(15, false), -1);
        Check.same("bound to none: never", kit.widget(7, 10), 1);
        kit.put(1, 3);
        kit.put(0, 3);
        Check.same("by their time", kit.count(13), 2);
        kit.put(1, 0);
        kit.put(1, 1);
        Check.same("newer", kit.count(13), 5);
        Check.style(kit, "#e{hide:1;}#d{wide:96;tall:64;}");
        Check.same("hidden by hide", kit.count(13), 2);
        Check.same("held to the screen", Check.place(kit, 2), "0 0 40 30");
        Check.style(kit, "");
        Check.same("newer again", kit.count(13), 5);
        Check.style(kit, "col{hide:1;}");
        Check.same("hidden by its box", kit.count(13), -1);
        Check.style(kit, "");
        Check.same("in their order", kit.count(13), 5);
    }

    private static void nested() {
        ScreenKit kit = new ScreenKit(40, 30);
        kit.put(1, 1);
        Check.style(kit, "dialog{pad:2;}button{wide:9;tall:6;}.o{wide:30;tall:20;}");
        Check.form(kit, "dialog.o(bind=1){button tabs{gap dialog(bind=2){button}}}");
        Check.same("widget 0 as a dialog", Check.place(kit, 0) + "/" + kit.count(13), "5 5 30 20/0");
        kit.put(2, 1);
        Check.same("a page that isn't chosen", kit.widget(4, 10), 1);
        kit.focus(2);
        kit.key(2, false);
        Check.same("chosen", kit.widget(4, 10) + 10 * kit.count(13), 40);
        Check.same("its page has nothing", Check.least(kit, 2), "8 8");
        Check.same("not in the tabs", Check.place(kit, 4), "13 10 13 10");
        Check.same("no focus beside it", kit.count(5), -1);
        Check.same("nothing beside it is found", kit.point(6, 6), -1);
        Check.same("in it", kit.point(16, 13), 5);
        kit.key(13, true);
        Check.same("alone", kit.count(5), 5);
        kit.put(1, 0);
        Check.same("closed with the one around", kit.widget(4, 10) + 10 * kit.count(13), -9);
        Check.same("nothing there", kit.point(16, 13), -1);
        kit.put(1, 1);
        Check.same("both, in their order", kit.count(13), 4);
    }

    /** What was hovered and pressed as a dialog opens. */
    private static void stale() {
        ScreenKit kit = new ScreenKit(40, 30);
        Check.form(kit, "col{slider(bind=3) dialog(bind=1){gap.g}}");
        Check.style(kit, ".g{wide:6;tall:6;}");
        kit.point(20, 3);
        kit.down();
        kit.put(1, 1);
        Check.same("pressed no more", kit.count(6) * 10 + kit.count(5), -11);
        Check.same("hovered till the next point()", kit.count(7), 1);
        Check.same("nothing is clicked", kit.up(), -1);
        kit.put(3, 1);
        Check.same("down answers it", kit.down(), 1);
        Check.same("pressed no more behind the call", kit.count(6) * 10 + kit.count(5), -11);
        Check.same("set by the pointer", kit.cell(3), 99 * 19 / 37);
    }

    public static void main(String[] args) {
        tabs();
        ownChoice();
        smallTabs();
        dialogs();
        nested();
        stale();
        Check.end("TabsTest");
    }
}
