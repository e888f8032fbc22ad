/** Promise 7: least sizes and places of every kind, by hand from the document's point 5. */
public final class PlaceTest {
    private static void least(String form, String style, int w, String due) {
        Check.same("least of " + w + " in " + form + " " + style, Check.least(Check.made(96, 64, form, style), w), due);
    }

    private static void places(String form, String style, String... due) {
        ScreenKit kit = Check.made(96, 64, form, style);
        for (int i = 0; i < due.length; i++) {
            Check.same("place of " + (i + 1) + " in " + form + " " + style, Check.place(kit, i + 1), due[i]);
        }
    }

    private static void contents() {
        least("label\"abc\"", "", 0, "12 6");
        least("label", "", 0, "0 6");
        least("label\"a b\"", "label{pad:2;line:1;}", 0, "20 12");
        least("label\"abc\"", "label{wide:20;tall:4;}", 0, "20 6");
        least("label(wrap=1)\"  a  bcd e \"", "", 0, "12 18");
        least("label(wrap=1)\"abc d e\"", "", 0, "12 18");
        least("label(wrap=1)\"abcd c c\"", "", 0, "16 12");
        least("label(wrap=1)\"   \"", "", 0, "0 0");
        least("label(wrap=1)", "label{pad:1;}", 0, "2 2");
        least("label(wrap=1)\"a b\"", "label{wide:50;}", 0, "50 12");
        least("button\"ab\"", "", 0, "9 6");
        least("check\"ab\"", "", 0, "16 6");
        least("radio", "", 0, "7 6");
        least("field(wide=3)\"abcdef\"", "", 0, "16 6");
        least("field", "", 0, "41 6");
        least("slider", "", 0, "20 6");
        least("list", "", 0, "30 0");
        least("list(rows=3)", "", 0, "30 18");
        least("list(rows=5)", "", 0, "30 24");
        least("gap", "gap{line:3;pad:9;}", 0, "24 24");
        least("tree\"ab(c)\"", "", 0, "30 18");
        least("tree\"abcdef\"", "", 0, "30 24");
        least("table", "", 0, "40 6");
        least("picture", "", 0, "1 1");
        least("gap", "gap{hide:1;wide:9;}", 0, "0 0");
    }

    private static void boxes() {
        String three = "{gap.a gap.b gap.c}";
        String sizes = ".a{wide:5;tall:3;}.b{wide:7;tall:9;}.c{wide:2;tall:4;}";
        least("row" + three, sizes, 0, "14 9");
        least("row" + three, sizes + "row{gap:2;pad:1;}", 0, "20 11");
        least("col" + three, sizes + "col{gap:2;}", 0, "7 20");
        least("stack" + three, sizes + "stack{gap:2;}", 0, "7 9");
        least("grid" + three, sizes + "grid{gap:2;}", 0, "14 15");
        least("grid(cols=3)" + three, sizes, 0, "14 9");
        least("grid(cols=1)" + three, sizes, 0, "7 16");
        least("grid(cols=4)" + three, sizes + "grid{gap:1;}", 0, "17 9");
        least("flow" + three, sizes + "flow{gap:1;}", 0, "16 9");
        least("flow" + three, sizes + "flow{gap:1;wide:16;}", 0, "16 9");
        least("flow" + three, sizes + "flow{gap:1;wide:15;}", 0, "15 14");
        least("flow" + three, sizes + "flow{gap:1;wide:14;pad:1;}", 0, "14 15");
        least("flow" + three, sizes + "flow{wide:3;}", 0, "7 16");
        least("scroll{gap.b}", sizes, 0, "12 12");
        least("scroll", "scroll{pad:1;}", 0, "14 14");
        least("row" + three, sizes + ".b{hide:1;}row{gap:2;}", 0, "9 4");
        least("grid" + three, sizes + ".b{hide:1;}", 0, "7 4");
        least("row{gap.a dialog.b(bind=0) gap.c}", sizes, 0, "7 4");
    }

    private static void rows() {
        String three = "{gap.a gap.b gap.c}";
        String sizes = ".a{wide:5;tall:3;}.b{wide:7;tall:9;}.c{wide:2;tall:4;}";
        places("row" + three, sizes, "0 0 5 64", "5 0 7 64", "12 0 2 64");
        places("row" + three, sizes + "row{line:1;pad:2;gap:4;align:0;}", "3 3 5 3", "12 3 7 9", "23 3 2 4");
        places("row" + three, sizes + "row{align:1;}", "0 30 5 3", "5 27 7 9", "12 30 2 4");
        places("row" + three, sizes + "row{align:2;}", "0 61 5 3", "5 55 7 9", "12 60 2 4");
        places("row" + three, sizes + ".a{grow:1;}.c{grow:2;}", "0 0 33 64", "33 0 7 64", "40 0 56 64");
        places("row" + three, sizes + "gap{grow:9;}", "0 0 33 64", "33 0 34 64", "67 0 29 64");
        places("row" + three, sizes + ".c{grow:1;}row{gap:9;}", "0 0 5 64", "14 0 7 64", "30 0 66 64");
        places("row" + three, sizes + "row{dir:1;gap:1;}", "91 0 5 64", "83 0 7 64", "80 0 2 64");
        places("row{gap gap}", "gap{wide:60;grow:1;}", "0 0 60 64", "60 0 60 64");
        places("row{gap gap}", "gap{wide:60;tall:64;grow:1;}row{pad:1;align:1;dir:1;}", "35 1 60 64", "-25 1 60 64");
        places("col" + three, sizes, "0 0 96 3", "0 3 96 9", "0 12 96 4");
        places("col" + three, sizes + "col{align:1;gap:1;}", "45 0 5 3", "44 4 7 9", "47 14 2 4");
        places("col" + three, sizes + "col{align:0;dir:1;}", "91 0 5 3", "89 3 7 9", "94 12 2 4");
        places("col" + three, sizes + "col{align:2;}.a{grow:1;}", "91 0 5 51", "89 51 7 9", "94 60 2 4");
        places("row{gap.a col{gap}}", ".a{wide:95;}col{wide:5;pad:3;}", "0 0 95 64", "95 0 6 64", "98 3 0 0");
    }

    private static void grids() {
        String five = "{gap gap gap gap gap}";
        places("grid(cols=2){gap.a gap.b gap.c}", ".a{wide:5;tall:3;}.b{wide:7;tall:9;}.c{wide:2;tall:4;}grid{gap:1;}",
            "0 0 47 34", "48 0 48 34", "0 35 47 29");
        places("grid(cols=3)" + five, "gap{wide:10;tall:7;}grid{align:1;}",
            "11 12 10 7", "43 12 10 7", "75 12 10 7", "11 44 10 7", "43 44 10 7");
        places("grid(cols=5)" + five, "gap{wide:1;tall:1;}grid{align:0;dir:1;}",
            "95 0 1 1", "75 0 1 1", "56 0 1 1", "37 0 1 1", "18 0 1 1");
        places("grid(cols=3)" + five, "gap{wide:40;tall:40;}grid{align:2;gap:1;}",
            "0 0 40 40", "41 0 40 40", "82 0 40 40", "0 41 40 40", "41 41 40 40");
        places("grid(cols=4){gap}", "grid{gap:2;}", "0 0 23 64");
        places("grid{gap gap.h gap}", ".h{hide:1;}", "0 0 48 64", "0 0 0 0", "48 0 48 64");
        places("stack{gap.a gap.b}", ".a{wide:6;tall:5;}stack{align:1;pad:1;}", "45 29 6 5", "48 32 0 0");
        places("stack{gap.a gap.b}", ".a{wide:6;tall:5;}stack{align:3;pad:1;}", "1 1 94 62", "1 1 94 62");
        places("stack{gap}", "gap{wide:96;tall:64;}stack{align:2;pad:9;}", "9 9 96 64");
        places("stack{gap}", "gap{wide:96;}stack{align:0;dir:1;pad:9;}", "-9 9 96 0");
    }

    private static void flows() {
        String three = "{gap.a gap.b gap.c}";
        String sizes = ".a{wide:50;tall:3;}.b{wide:44;tall:9;}.c{wide:20;tall:4;}";
        places("flow" + three, sizes + "flow{gap:2;}", "0 0 50 3", "52 0 44 9", "0 11 20 4");
        places("flow" + three, sizes + "flow{gap:3;}", "0 0 50 3", "0 6 44 9", "47 6 20 4");
        places("flow" + three, sizes + "flow{gap:3;dir:1;}", "46 0 50 3", "52 6 44 9", "29 6 20 4");
        places("flow{gap gap}", "flow{pad:9;line:3;}gap{wide:96;tall:1;}", "12 12 96 1", "12 13 96 1");
    }

    private static void scrolls() {
        ScreenKit kit = Check.made(40, 30, "scroll{gap}", "scroll{pad:2;}gap{wide:10;tall:64;}");
        Check.same("as wide as the content", Check.place(kit, 1), "2 2 36 64");
        kit.point(5, 5);
        Check.same("turned", kit.wheel(2), 0);
        Check.same("scrolled", kit.widget(0, 14), 12);
        Check.same("higher", Check.place(kit, 1), "2 -10 36 64");
        kit.wheel(1000);
        Check.same("to the end", kit.widget(0, 14), 64 - 26);
        kit.wheel(-3);
        Check.same("back", kit.widget(0, 14), 20);
        Check.style(kit, "scroll{pad:2;}gap{wide:50;tall:40;}");
        Check.same("held", kit.widget(0, 14), 14);
        Check.same("wider", Check.place(kit, 1), "2 -12 50 40");
        Check.style(kit, "scroll{pad:2;dir:1;}gap{wide:50;tall:64;}");
        Check.same("stays so", kit.widget(0, 14), 14);
        Check.same("turned by dir", Check.place(kit, 1), "-12 -12 50 64");
        Check.style(kit, "scroll{hide:1;}gap{tall:9;}");
        Check.same("a hidden one's stays", kit.widget(0, 14), 14);
        Check.same("under the pointer yet", kit.wheel(1), 0);
        Check.same("as it is when it turns", kit.widget(0, 14), 0);
        Check.style(kit, "scroll{pad:2;}gap{tall:9;}");
        Check.same("nothing to scroll", kit.widget(0, 14), 0);
        Check.same("at least the content's", Check.place(kit, 1), "2 2 36 26");
    }

    private static void hidden() {
        ScreenKit kit = Check.made(40, 40, "col.h{row{gap} label\"x\"}", ".h:off{hide:1;}");
        Check.same("seen", kit.widget(2, 10), 0);
        kit.able(0, true);
        for (int w = 0; w < 4; w++) {
            Check.same("hidden " + w, kit.widget(w, 10), 1);
            Check.same("its place", Check.place(kit, w) + " " + Check.least(kit, w), "0 0 0 0 0 0");
        }
        Check.same("no such widget", kit.widget(4, 0) + kit.widget(-1, 4), -2);
        Check.same("no such number", kit.widget(0, 16) + kit.widget(0, -1), -2);
    }

    private static void numbers() {
        ScreenKit kit = Check.made(40, 40, "col{row{gap label\"ab\"} scroll{list(rows=3,bind=4)}}", "");
        int[][] due = {{1, -1, 2, 0, -1}, {0, 0, 2, 0, -1}, {13, 1, 0, 0, -1}, {6, 1, 0, 1, -1}, {5, 0, 1, 1, -1},
            {12, 4, 0, 0, 4}};
        for (int w = 0; w < due.length; w++) {
            for (int what = 0; what < 4; what++) {
                Check.same("widget " + w + ", " + what, kit.widget(w, what), due[w][what]);
            }
            Check.same("cell of " + w, kit.widget(w, 12), due[w][4]);
            Check.same("signs of " + w, kit.widget(w, 13), w == 3 ? 2 : 0);
        }
        Check.same("selected", kit.widget(5, 15), 0);
        kit.put(4, 3);
        Check.same("no such row", kit.widget(5, 15), -1);
        Check.same("letters", kit.letter(3, 0) + kit.letter(3, 1), 'a' + 'b');
        Check.same("no letters", kit.letter(3, 2) + kit.letter(3, -1) + kit.letter(2, 0) + kit.letter(9, 0), -4);
    }

    public static void main(String[] args) {
        contents();
        boxes();
        rows();
        grids();
        flows();
        scrolls();
        hidden();
        numbers();
        Check.end("PlaceTest");
    }
}
