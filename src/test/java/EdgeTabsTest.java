/** Points 11 and 12 of the document: tabs and dialogs; edge by edge. */
public final class EdgeTabsTest {
    /** CHOSEN is the page whose number its cell is; bound to none: the one chosen latest, page 0 at first. */
    private static void chosen() {
        int[][] due = {{0, 0}, {1, 1}, {2, 2}, {3, -1}, {-1, -1}, {Integer.MAX_VALUE, -1}, {Integer.MIN_VALUE, -1}};
        for (int[] d : due) {
            ScreenKit kit = Check.made(40, 40, "tabs(bind=0){gap gap row{gap}}", "");
            kit.put(0, d[0]);
            Check.same("chosen at " + d[0], kit.widget(0, 15), d[1]);
            for (int page = 0; page < 3; page++) {
                Check.same("page " + page, kit.widget(1 + page, 10), page == d[1] ? 0 : 1);
                Check.same("its place", Check.place(kit, 1 + page), page == d[1] ? "0 8 40 32" : "0 0 0 0");
            }
            Check.same("what is in it", kit.widget(4, 10), d[1] == 2 ? 0 : 1);
        }
        ScreenKit kit = Check.made(40, 40, "tabs{gap\"a\" gap\"b\"}", "");
        Check.same("page 0 at first", kit.widget(0, 15), 0);
        Check.click(kit, 9, 3);
        Check.same("the one chosen latest", kit.widget(0, 15), 1);
        kit = Check.made(40, 40, "tabs", "");
        Check.same("without pages", kit.widget(0, 15), -1);
        Check.tell(kit, "gap").insert(0, 0);
        Check.same("page 0", kit.widget(0, 15), 0);
        kit = Check.made(40, 40, "tabs{button field}", "");
        kit.focus(1);
        kit.key(13, false);
        Check.same("hidden pages have no focus", kit.count(5), 0);
        kit.key(2, false);
        kit.key(13, false);
        Check.same("the other one has", kit.count(5), 2);
    }

    /** down() on a part, as wide as its title and 4 more, in the header (8 lines), of what is seen of it. */
    private static void parts() {
        // parts of 3 + 4, 4 + 4, 0 + 4
        int[][] due = {{0, 0, 0}, {6, 0, 0}, {7, 0, 1}, {14, 0, 1}, {15, 0, 2}, {18, 0, 2}, {19, 0, -1}, {39, 0, -1}, {6, 7, 0}, {6, 8, -1},
            {18, 7, 2}, {15, 7, 2}};
        for (int[] d : due) {
            ScreenKit kit = Check.made(40, 40, "tabs(bind=1){gap\"c\" gap\"d\" gap}", "");
            kit.put(1, -1);
            Check.click(kit, d[0], d[1]);
            Check.same("part at " + d[0] + ", " + d[1], kit.cell(1), d[2]);
            kit = Check.made(40, 40, "tabs(bind=1){gap\"c\" gap\"d\" gap}", "tabs{dir:1;}");
            kit.put(1, -1);
            Check.click(kit, 39 - d[0], d[1]);
            Check.same("turned, " + d[0] + ", " + d[1], kit.cell(1), d[2]);
            kit = Check.made(50, 50, "tabs(bind=1){gap\"c\" gap\"d\" gap}", "tabs{pad:4;line:1;}");
            kit.put(1, -1);
            Check.click(kit, 5 + d[0], 5 + d[1]);
            Check.same("in a frame, " + d[0] + ", " + d[1], kit.cell(1), d[2]);
        }
        int[][] frames = {{4, 5}, {5, 4}, {6, 3}, {45, 6}, {5, 45}};
        for (int[] f : frames) {
            ScreenKit kit = Check.made(50, 50, "tabs(bind=1){gap\"c\"}", "tabs{pad:4;line:1;}");
            kit.put(1, -1);
            Check.click(kit, f[0], f[1]);
            Check.same("the frame at " + f[0] + ", " + f[1], kit.cell(1), -1);
        }
        ScreenKit kit = Check.made(16, 16, "tabs(bind=1){gap\"c\" gap\"d\"}", "tabs{pad:5;}");
        Check.click(kit, 10, 10);
        Check.same("as far as the content goes", kit.cell(1), 0);
        Check.click(kit, 11, 7);
        Check.same("not beside it", kit.cell(1), 0);
        kit = Check.made(40, 40, "stack{tabs(bind=1){gap\"" + "c".repeat(20) + "\" gap}}", "tabs{wide:60;dir:0;}");
        kit.put(1, 1);
        kit.point(2, 7);
        Check.style(kit, "stack{pad:5;dir:1;align:0;}tabs{wide:60;dir:0;}");
        Check.same("a part of it is there", Check.place(kit, 1), "-33 5 68 8");
        Check.same("pressed", kit.down(), 1);
        Check.same("but it isn't seen there", kit.cell(1), 1);
        kit.up();
        kit.point(6, 7);
        kit.down();
        Check.same("there it is", kit.cell(1), 0);
    }

    /** Keys 1, 2 (dir 1 turned): the one ahead, behind, if there is one; of none chosen page 0. */
    private static void keys() {
        int[][] due = {{0, 1, 0, 0}, {0, 2, 0, 1}, {1, 1, 0, 0}, {1, 2, 0, 2}, {2, 2, 0, 2}, {2, 1, 0, 1}, {3, 1, 0, 0}, {3, 2, 0, 0},
            {-1, 1, 0, 0}, {-1, 2, 0, 0}, {0, 1, 1, 1}, {0, 2, 1, 0}, {2, 1, 1, 2}, {2, 2, 1, 1}, {3, 1, 1, 0}, {3, 2, 1, 0}};
        for (int[] d : due) {
            ScreenKit kit = Check.made(40, 40, "tabs(bind=1){gap gap gap}", "tabs{dir:" + d[2] + ";}");
            kit.put(1, d[0]);
            kit.focus(0);
            Check.same("key", kit.key(d[1], d[0] == 1), 0);
            Check.same("key " + d[1] + " of " + d[0] + " in dir " + d[2], kit.cell(1), d[3]);
        }
        ScreenKit kit = Check.made(40, 40, "tabs(bind=1){gap gap gap}", "");
        kit.put(1, 1);
        kit.focus(0);
        for (int k = 3; k <= 127; k++) {
            kit.key(k, false);
            Check.same("other keys, " + k, kit.cell(1), 1);
        }
        kit = Check.made(40, 40, "tabs(bind=1)", "");
        kit.put(1, 5);
        kit.focus(0);
        kit.key(1, false);
        kit.key(2, false);
        Check.same("without pages", kit.cell(1), 5);
    }

    private static void least(String form, String style, String due) {
        Check.same("least of " + form + " " + style, Check.least(Check.made(60, 60, form, style), 0), due);
    }

    /** Least content: the parts' widths, or the page's, if that is more; 8 and the page's height (none chosen: 8). */
    private static void sizes() {
        least("tabs", "", "0 8");
        least("tabs", "tabs{pad:1;}", "2 10");
        least("tabs{gap}", "", "4 8");
        least("tabs{gap\"c\" gap\"d\"}", "", "15 8");
        least("tabs{gap\"c\" gap\"d\"}", "gap{wide:14;tall:1;}", "15 9");
        least("tabs{gap\"c\" gap\"d\"}", "gap{wide:15;tall:2;}", "15 10");
        least("tabs{gap\"c\" gap\"d\"}", "gap{wide:16;tall:3;}", "16 11");
        least("tabs(bind=1){gap.a gap.b}", ".a{wide:20;tall:9;}.b{wide:30;tall:19;}", "20 17");
        least("tabs{gap}", "gap{wide:20;tall:9;hide:1;}", "4 8");
        ScreenKit kit = Check.made(60, 60, "tabs(bind=1){gap.a gap.b}", ".a{wide:20;tall:9;}.b{wide:30;tall:19;}");
        kit.put(1, 1);
        Check.same("the other", Check.least(kit, 0), "30 27");
        kit.put(1, 2);
        Check.same("none chosen", Check.least(kit, 0), "8 8");
        int[] heights = {16, 17, 20, 24};
        for (int h : heights) {
            kit = Check.made(20, h, "tabs{gap}", "tabs{pad:4;}");
            Check.same("the content's rest", Check.place(kit, 1), "4 12 12 " + (h - 16));
        }
        kit = Check.made(20, 16, "tabs{gap}", "tabs{pad:5;}");
        Check.same("0 at least", Check.place(kit, 1), "5 13 10 0");
        kit = Check.made(20, 20, "tabs{gap}", "gap{wide:50;tall:50;}");
        Check.same("not its least size", Check.place(kit, 1), "0 8 20 12");
    }

    /** A dialog is OPEN if its cell isn't 0 (bound to none: never) and no hide and no box hides it. */
    private static void open() {
        int[][] due = {{0, 1}, {1, 0}, {-1, 0}, {2, 0}, {Integer.MIN_VALUE, 0}, {Integer.MAX_VALUE, 0}};
        for (int[] d : due) {
            ScreenKit kit = Check.made(40, 40, "row{dialog(bind=0){gap} dialog{gap}}", "gap{wide:4;tall:6;}");
            kit.put(0, d[0]);
            Check.same("hidden at " + d[0], kit.widget(1, 10) + kit.widget(2, 10), 2 * d[1]);
            Check.same("its place", Check.place(kit, 1), d[1] == 1 ? "0 0 0 0" : "18 17 4 6");
            Check.same("its least size", Check.least(kit, 1), d[1] == 1 ? "0 0" : "4 6");
            Check.same("the top one", kit.count(13), d[1] == 1 ? -1 : 1);
            Check.same("bound to none", kit.widget(3, 10) + kit.widget(4, 10), 2);
        }
        ScreenKit kit = Check.made(40, 40, "tabs(bind=2){row{dialog(bind=0){gap}} gap}", "");
        kit.put(0, 1);
        Check.same("open", kit.widget(2, 10) * 10 + kit.count(13), 2);
        kit.put(2, 1);
        Check.same("another page hides it", kit.widget(2, 10) * 10 + kit.count(13), 9);
        kit.put(2, 0);
        Check.style(kit, "row{hide:1;}");
        Check.same("a box hides it", kit.widget(2, 10) * 10 + kit.count(13), 9);
        Check.style(kit, "dialog{hide:1;}");
        Check.same("it is hidden itself", kit.widget(2, 10) * 10 + kit.count(13), 9);
        Check.style(kit, "gap{hide:1;}");
        Check.same("what is in it isn't it", kit.widget(2, 10) * 10 + kit.count(13), 2);
    }

    /** It has its least size, held to the screen's, in the middle (half the rest); its parent passes it over. */
    private static void places() {
        int[][] due = {{4, 18, 4}, {5, 17, 5}, {39, 0, 39}, {40, 0, 40}, {41, 0, 40}, {60, 0, 40}};
        for (int[] d : due) {
            ScreenKit kit = Check.made(40, 40, "row{dialog(bind=0){gap}}", "gap{wide:" + d[0] + ";tall:" + d[0] + ";}");
            kit.put(0, 1);
            Check.same("place of " + d[0], Check.place(kit, 1), d[1] + " " + d[1] + " " + d[2] + " " + d[2]);
            Check.same("its child", Check.place(kit, 2), d[1] + " " + d[1] + " " + d[2] + " " + d[2]);
        }
        ScreenKit kit = Check.made(40, 40, "row{gap dialog(bind=0){gap gap.b} gap}", "gap{wide:4;tall:4;}.b{wide:9;tall:2;}row{gap:3;}"
            + "dialog{pad:2;line:1;align:1;wide:3;tall:20;}");
        String first = Check.least(kit, 0) + Check.place(kit, 5);
        kit.put(0, 1);
        Check.same("passed over in any case", Check.least(kit, 0) + Check.place(kit, 5), first);
        Check.same("as a stack's", Check.place(kit, 2), "12 10 15 20");
        Check.same("children as a stack's", Check.place(kit, 3) + "/" + Check.place(kit, 4), "17 18 4 4/15 19 9 2");
        kit = Check.made(40, 40, "scroll{dialog(bind=0){gap}}", "scroll{pad:9;line:3;}gap{wide:30;tall:30;paper:ff102030;}");
        kit.put(0, 1);
        kit.paint();
        Check.same("all of its place is visible", Check.place(kit, 1) + kit.pixel(5, 5) + kit.pixel(34, 34),
            "5 5 30 30" + 0xff102030 + 0xff102030);
        kit = Check.made(40, 40, "dialog(bind=0){gap}", "gap{wide:9;tall:9;}");
        Check.same("widget 0, closed", Check.place(kit, 0) + kit.widget(0, 10), "0 0 0 01");
        kit.put(0, 1);
        Check.same("widget 0, open", Check.place(kit, 0) + kit.widget(0, 10), "15 15 9 90");
    }

    /** Those that are open and weren't come to be the newest, in their order; the newest is the top one. */
    private static void newest() {
        ScreenKit kit = Check.made(40, 40, "row{dialog(bind=0) dialog(bind=1) dialog(bind=2) dialog(bind=0)}", "");
        int[][] puts = {{1, 1, 2}, {2, 1, 3}, {1, 5, 3}, {1, 0, 3}, {1, 1, 2}, {2, 0, 2}, {0, 1, 4}, {2, 1, 3}, {0, 0, 3}, {0, 1, 4}, {2, 0, 4},
            {0, 0, 2}, {1, 0, -1}, {0, 7, 4}};
        for (int[] p : puts) {
            kit.put(p[0], p[1]);
            Check.same("top behind cell " + p[0] + " = " + p[1], kit.count(13), p[2]);
        }
        kit.key(15, false);
        Check.same("key 15: both of this cell", kit.cell(0) * 10 + kit.count(13), -1);
        kit.key(15, false);
        Check.same("key 15 without one", kit.cell(0) + kit.cell(1) + kit.cell(2), 0);
        kit.put(1, -3);
        kit.put(2, 4);
        Check.same("key 15", kit.key(15, true), -1);
        Check.same("the top one's alone", kit.cell(1) * 10 + kit.cell(2), -30);
        Check.same("the other is it", kit.count(13), 2);
        kit.put(2, 1);
        Check.tell(kit, "dialog(bind=1)").insert(0, 0);
        Check.same("a new one is the newest", kit.count(13), 1);
        Check.same("it goes", kit.remove(1), 5);
        Check.same("the order stays", kit.count(13), 3);
        kit.put(1, 0);
        kit.put(1, 1);
        Check.same("another is newer", kit.count(13), 2);
        kit.remove(1);
        Check.same("the order stays then", kit.count(13), 1);
        kit.remove(3);
        Check.same("and then", kit.count(13), 1);
        Check.form(kit, "row{dialog(bind=1) dialog(bind=2)}");
        Check.same("a form: in their order", kit.count(13), 2);
        Check.form(kit, "row{dialog(bind=2) dialog(bind=1)}");
        Check.same("a form: in their order", kit.count(13), 2);
        Check.form(kit, "row{gap}");
        Check.same("none in this form", kit.count(13), -1);
        kit.point(3, 3);
        Check.same("nothing is beside a top one", kit.point(3, 3), 0);
    }

    /** As long as there is a top one: point() finds what is in it alone, key 13 goes round it, others are as if OFF. */
    private static void top() {
        ScreenKit kit = Check.made(40, 40, "col{button slider(bind=5) dialog(bind=1){stack{button dialog(bind=2){button.c}}}}",
            "button{tall:6;}dialog button{wide:20;tall:20;}dialog .c{wide:8;tall:8;}");
        Check.same("none", kit.point(20, 3), 1);
        kit.down();
        kit.focus(2);
        kit.put(1, 1);
        Check.same("pressed and focused no more", kit.count(6) + kit.count(5), -2);
        Check.same("hovered yet", kit.count(7), 1);
        Check.same("off it isn't", kit.widget(1, 11), 1);
        Check.same("nothing clicked", kit.up(), -1);
        int[][] due = {{20, 3, -1}, {9, 20, -1}, {10, 10, 5}, {29, 29, 5}, {30, 20, -1}, {20, 9, -1}, {40, 20, -1}};
        for (int[] d : due) {
            Check.same("over " + d[0] + ", " + d[1], kit.point(d[0], d[1]), d[2]);
        }
        for (int n = 0; n < 3; n++) {
            kit.key(13, n == 1);
            Check.same("in it alone", kit.count(5), 5);
        }
        Check.same("beside it", kit.focus(1), -5);
        Check.same("in one within it", kit.focus(7), -5);
        kit.put(2, 1);
        Check.same("the one within", kit.count(13) * 10 + kit.count(5), 59);
        int[][] inner = {{15, 15, -1}, {16, 16, 7}, {23, 23, 7}, {24, 20, -1}};
        for (int[] d : inner) {
            Check.same("over " + d[0] + ", " + d[1] + " within", kit.point(d[0], d[1]), d[2]);
        }
        Check.same("the outer one's", kit.focus(5), -5);
        kit.key(13, true);
        Check.same("its own", kit.count(5), 7);
        Check.same("key 15", kit.key(15, false), 7);
        Check.same("the outer one again", kit.count(13) * 10 + kit.cell(2), 30);
        Check.same("what was in it is hidden", kit.count(5), -1);
        kit.put(2, 1);
        kit.put(1, 0);
        Check.same("both closed", kit.count(13) * 10 + kit.widget(6, 10), -9);
        kit.put(1, 1);
        Check.same("both open: in their order", kit.count(13), 6);
        kit = Check.made(40, 40, "row{dialog(bind=1){gap.a gap.b}}", ".a{wide:9;tall:9;}");
        kit.put(1, 1);
        Check.same("the last one painted", kit.point(20, 20), 3);
        kit = Check.made(40, 40, "dialog(bind=1){gap}", "gap{wide:9;tall:9;}");
        kit.put(1, 1);
        Check.same("beside widget 0", kit.point(3, 3), -1);
        Check.same("in widget 0", kit.point(20, 20), 1);
    }

    /** Painted are first the widgets in no dialog, then dialog by dialog, the newest last, each with what is in it. */
    private static void painting() {
        ScreenKit kit = Check.made(40, 30, "stack{dialog(bind=1){gap.a} gap.z dialog(bind=2){gap.b dialog(bind=3){gap.c}}}",
            ".a{wide:8;tall:8;paper:ffff0000;}.b{wide:10;tall:6;paper:ff0000ff;}.c{wide:4;tall:4;paper:ff00ff00;}.z{paper:ff101010;}");
        kit.put(1, 1);
        kit.paint();
        Check.same("above what stands behind it in the form", kit.pixel(20, 15), 0xffff0000);
        kit.put(2, 1);
        Check.same("the newest, and the others that are open", kit.paint(), 64 + 60 - 48);
        Check.same("the newest last", kit.pixel(20, 15), 0xff0000ff);
        kit.put(3, 1);
        Check.same("one within it", kit.paint(), 64 + 60 - 48);
        Check.same("is above it", kit.pixel(20, 15) == 0xff00ff00 && kit.pixel(16, 15) == 0xff0000ff ? 1 : 0, 1);
        kit.put(1, 0);
        kit.put(1, 1);
        Check.same("the same ones in another order", kit.paint(), 64 + 60 - 48);
        Check.same("the newest last", kit.pixel(20, 15), 0xffff0000);
        kit.put(3, 2);
        kit.put(1, 9);
        Check.same("the same ones in the same order", kit.paint(), 0);
        kit.put(3, 0);
        Check.same("one less: those that are open now, and what it was", kit.paint(), 64 + 60 - 48);
        kit.put(1, 0);
        kit.paint();
        kit.put(2, 0);
        Check.same("the last one", kit.paint(), 60);
        kit.put(2, 1);
        kit.put(2, 0);
        Check.same("there and back", kit.paint(), 0);
        kit.put(2, 1);
        kit.paint();
        kit.put(2, 0);
        kit.put(2, 1);
        Check.same("away and there again", kit.paint(), 0);
        kit.put(1, 1);
        Check.style(kit, ".a,.b,.c{wide:8;tall:8;paper:80ff0000;}");
        kit.paint();
        Check.same("each once", kit.pixel(20, 15), 0xff000000 | 255 << 16 | 63 << 8 | 63);
        kit.put(1, 0);
        Check.style(kit, ".a{wide:8;tall:8;paper:ffff0000;}.b{wide:10;tall:6;paper:ff0000ff;}");
        kit.paint();
        kit.remove(4);
        Check.tell(kit, "dialog(bind=2){gap.b}").insert(0, 2);
        Check.same("another one in its place", kit.paint(), 60);
    }

    /** One that shows again within a call isn't the newest yet: it is painted ahead of the other dialogs. */
    private static void again() {
        ScreenKit kit = Check.made(40, 30, "col{tabs{row{dialog(bind=1){gap.a}}} dialog(bind=2){gap.b}}",
            "tabs{grow:1;}.a{wide:12;tall:12;paper:ffff0000;}.b{wide:8;tall:8;paper:ff0000ff;}tabs:focus{hide:1;}");
        kit.point(20, 3);
        kit.put(2, 1);
        kit.put(1, 1);
        kit.paint();
        Check.same("the newest", kit.count(13) * 10 + (kit.pixel(20, 15) == 0xffff0000 ? 1 : 0), 31);
        Check.same("FOCUS hides the tabs", kit.down(), 1);
        Check.same("so they have none", kit.count(6) + kit.count(5), -2);
        Check.same("the dialog in it is open", kit.widget(3, 10), 0);
        Check.same("the other is the top one", kit.count(13), 5);
        Check.same("both are dirty", kit.paint(), 144);
        Check.same("the other is painted last", kit.pixel(20, 15), 0xff0000ff);
        Check.same("it is painted ahead of it", kit.pixel(14, 9), 0xffff0000);
        Check.same("the next call that changes something", kit.tick(1), 0);
        Check.same("makes it the newest", kit.count(13), 3);
        Check.same("both are dirty again", kit.paint(), 144);
        Check.same("it is painted last", kit.pixel(20, 15), 0xffff0000);
    }

    /** One that is hidden again within a call, as what opened it is lost, isn't the top one. */
    private static void lostAgain() {
        ScreenKit kit = Check.made(40, 30, "col{tabs{row{dialog(bind=1){gap.a}}} dialog(bind=2){gap.b}}",
            "tabs{grow:1;}.a{wide:12;tall:12;paper:ffff0000;}.b{wide:8;tall:8;paper:ff0000ff;}row dialog{hide:1;}"
            + "tabs:focus row dialog{hide:0;}");
        kit.put(1, 1);
        kit.paint();
        Check.same("FOCUS shows the dialog", kit.focus(1), 1);
        Check.same("which takes it", kit.count(5), -1);
        Check.same("so it is hidden again", kit.widget(3, 10) * 10 + kit.count(13), 9);
        Check.same("nothing is seen of it", kit.paint(), 0);
        Check.same("key 15 closes none", kit.key(15, false) + kit.cell(1), 0);
        Check.same("others are found", kit.point(20, 3), 1);
        kit.put(2, 1);
        kit.put(1, 2);
        Check.same("one that is open", kit.count(13), 5);
        Check.same("the tabs are hovered yet", kit.down(), 1);
        Check.same("it is the top one again", kit.count(13) * 10 + kit.count(5), 49);
        kit.paint();
        Check.same("it is painted", kit.pixel(20, 15), 0xff0000ff);
    }

    public static void main(String[] args) {
        chosen();
        parts();
        keys();
        sizes();
        open();
        places();
        newest();
        top();
        painting();
        again();
        lostAgain();
        Check.end("EdgeTabsTest");
    }
}
