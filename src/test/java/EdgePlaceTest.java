/** Point 5 of the document and promise 7: least sizes, places, what is visible; edge by edge. */
public final class EdgePlaceTest {
    private static void least(String form, String style, String due) {
        Check.same("least of " + form + " " + style, Check.least(Check.made(96, 64, form, style), 0), due);
    }

    private static void places(int width, int height, String form, String style, String... due) {
        ScreenKit kit = Check.made(width, height, form, style);
        for (int i = 0; i < due.length; i++) {
            Check.same("place of " + (i + 1) + " in " + form + " " + style, Check.place(kit, i + 1), due[i]);
        }
    }

    /** LEAST: the greater of wide and 2 frames + the content's; height likewise with tall. */
    private static void frames() {
        least("gap", "gap{line:1;pad:2;wide:5;tall:5;}", "6 6");
        least("gap", "gap{line:1;pad:2;wide:6;tall:6;}", "6 6");
        least("gap", "gap{line:1;pad:2;wide:7;tall:8;}", "7 8");
        least("gap", "gap{line:3;pad:9;}", "24 24");
        least("gap", "gap{wide:96;tall:64;}", "96 64");
        least("gap", "", "0 0");
        least("label\"a\"", "label{wide:3;tall:5;}", "4 6");
        least("label\"a\"", "label{wide:5;tall:7;}", "5 7");
        least("label\"a\"", "label{pad:1;wide:5;tall:7;}", "6 8");
        least("gap", "gap{hide:1;wide:5;tall:5;pad:1;}", "0 0");
        Check.same("hidden by one around", Check.least(Check.made(20, 20, "row{gap}", "row{hide:1;}gap{wide:5;}"), 1), "0 0");
    }

    /** CONTENT of each kind. */
    private static void contents() {
        least("label", "", "0 6");
        least("button", "", "0 6");
        least("button(bind=1)\"abc\"", "", "12 6");
        least("check", "", "7 6");
        least("check\"abc\"", "", "19 6");
        least("radio\"abc\"", "", "19 6");
        least("field(wide=1)\"abcdef\"", "", "6 6");
        least("field(wide=40)", "", "201 6");
        least("slider", "", "20 6");
        int[][] lists = {{0, 0}, {1, 6}, {3, 18}, {4, 24}, {5, 24}, {1000000, 24}};
        for (int[] l : lists) {
            least("list(rows=" + l[0] + ")", "", "30 " + l[1]);
            least("list(rows=" + l[0] + ")", "list{pad:1;}", "32 " + (l[1] + 2));
        }
        least("list", "list{pad:1;}", "32 2");
        String[] trees = {"", "a", "a(b)", "abc", "a(b(c(d)))", "a(bcde)", "(.)-"};
        int[] nodes = {0, 1, 2, 3, 4, 5, 0};
        for (int i = 0; i < trees.length; i++) {
            least("tree\"" + trees[i] + "\"", "", "30 " + 6 * Math.min(4, nodes[i]));
        }
        for (int rows = -1; rows <= 6; rows++) {
            ScreenKit kit = Check.made(40, 40, "table", "");
            Check.tell(kit, "x\n".repeat(rows + 1)).data();
            Check.same("table of " + rows + " rows", Check.least(kit, 0), "40 " + (6 + 6 * Math.max(0, Math.min(4, rows))));
        }
        least("gap", "", "0 0");
        least("scroll", "", "12 12");
        least("scroll{gap}", "gap{wide:90;tall:60;}", "12 12");
        least("scroll", "scroll{pad:1;line:1;}", "16 16");
        ScreenKit kit = Check.made(40, 40, "picture(img=4)", "");
        Check.same("an image at first", Check.least(kit, 0), "1 1");
        kit.image(4, 32, 31);
        Check.same("an image", Check.least(kit, 0), "32 31");
        kit.scale(4, 1, 32);
        Check.same("scaled", Check.least(kit, 0), "1 32");
        kit.image(3, 9, 9);
        Check.same("another one", Check.least(kit, 0), "1 32");
    }

    /** row, col, stack: gaps are between the children that are placed. */
    private static void lines() {
        String style = "gap{wide:5;tall:3;}*{gap:2;}.h{hide:1;}";
        least("row", style, "0 0");
        least("row{gap}", style, "5 3");
        least("row{gap gap}", style, "12 3");
        least("row{gap gap.h gap}", style, "12 3");
        least("row{gap.h gap}", style, "5 3");
        least("row{gap gap.h}", style, "5 3");
        least("row{gap.h}", style, "0 0");
        least("row{gap dialog gap}", style, "12 3");
        least("col", style, "0 0");
        least("col{gap}", style, "5 3");
        least("col{gap gap}", style, "5 8");
        least("col{gap gap.h gap}", style, "5 8");
        least("stack", style, "0 0");
        least("stack{gap gap}", style, "5 3");
        least("stack{gap.h}", style, "0 0");
        least("row{gap.a gap.b}", ".a{wide:4;tall:9;}.b{wide:9;tall:4;}", "13 9");
        least("col{gap.a gap.b}", ".a{wide:4;tall:9;}.b{wide:9;tall:4;}", "9 13");
        least("stack{gap.a gap.b}", ".a{wide:4;tall:9;}.b{wide:9;tall:4;}", "9 9");
    }

    /** grid: cols columns, as wide as the widest child in it; each row as high as the highest. */
    private static void grids() {
        String style = ".a{wide:5;tall:3;}.b{wide:7;tall:9;}.c{wide:2;tall:4;}";
        least("grid{gap gap}", "", "0 0");
        least("grid{gap gap gap}", "grid{gap:1;}", "1 1");
        least("grid(cols=1){gap.a gap.b gap.c}", style + "grid{gap:1;}", "7 18");
        least("grid(cols=2){gap.a gap.b}", style + "grid{gap:1;}", "13 9");
        least("grid(cols=2){gap.a gap.b gap.c}", style + "grid{gap:1;}", "13 14");
        least("grid(cols=3){gap.a gap.b gap.c}", style + "grid{gap:1;}", "16 9");
        least("grid(cols=4){gap.a gap.b gap.c}", style + "grid{gap:1;}", "17 9");
        least("grid(cols=8){gap.a}", style + "grid{gap:1;}", "12 3");
        least("grid(cols=2){gap.c gap.h gap.b gap.a}", style + "grid{gap:1;}.h{hide:1;}", "13 13");
        least("grid(cols=2){gap.c gap.a gap.b gap.c}", style, "12 13");
        places(96, 64, "grid(cols=1){gap.a gap.b gap.c}", style + "grid{gap:1;}", "0 0 96 19", "0 20 96 24", "0 45 96 19");
        places(96, 64, "grid(cols=2){gap gap gap gap gap}", "grid{gap:2;}", "0 0 47 20", "49 0 47 20", "0 22 47 20", "49 22 47 20",
            "0 44 47 20");
        places(96, 64, "grid(cols=3){gap}", "", "0 0 32 64");
        // what is left is given to all alike, 1 more to the first ones
        places(16, 16, "grid(cols=3){gap gap gap}", "gap{wide:5;tall:15;}", "0 0 6 16", "6 0 5 16", "11 0 5 16");
        places(17, 17, "grid(cols=3){gap gap gap}", "gap{wide:5;tall:15;}", "0 0 6 17", "6 0 6 17", "12 0 5 17");
        places(18, 18, "grid(cols=3){gap gap gap}", "gap{wide:5;tall:15;}", "0 0 6 18", "6 0 6 18", "12 0 6 18");
        places(16, 16, "grid(cols=2){gap gap gap gap}", "gap{wide:8;tall:8;}", "0 0 8 8", "8 0 8 8", "0 8 8 8", "8 8 8 8");
        places(16, 16, "grid(cols=2){gap gap gap gap}", "gap{wide:8;tall:7;}", "0 0 8 8", "8 0 8 8", "0 8 8 8", "8 8 8 8");
        places(16, 17, "grid(cols=2){gap gap gap gap}", "gap{wide:8;tall:8;}", "0 0 8 9", "8 0 8 9", "0 9 8 8", "8 9 8 8");
        places(16, 16, "grid(cols=2){gap gap gap gap}", "gap{wide:9;tall:9;}", "0 0 9 9", "9 0 9 9", "0 9 9 9", "9 9 9 9");
        // each grid has its own columns
        places(96, 64, "col{grid.x{gap.a gap.b} grid(cols=3){gap.c gap.c gap.c}}", style + "col{align:0;}.x{gap:3;}", "0 0 15 9",
            "0 0 5 9", "8 0 7 9", "0 9 6 4", "0 9 2 4", "2 9 2 4", "4 9 2 4");
    }

    /** flow: as a row; if wide isn't 0 and that is more than wide less 2 frames: broken into rows. */
    private static void flows() {
        String three = "flow{gap.a gap.b gap.c}";
        String style = ".a{wide:5;tall:3;}.b{wide:7;tall:9;}.c{wide:2;tall:4;}";
        least(three, style + "flow{gap:1;}", "16 9");
        least(three, style + "flow{gap:1;wide:17;}", "17 9");
        least(three, style + "flow{gap:1;wide:16;}", "16 9");
        least(three, style + "flow{gap:1;wide:15;}", "15 14");
        least(three, style + "flow{gap:1;wide:18;pad:1;}", "18 11");
        least(three, style + "flow{gap:1;wide:17;pad:1;}", "17 16");
        least(three, style + "flow{gap:1;wide:13;}", "13 14");
        least(three, style + "flow{gap:1;wide:12;}", "12 13");
        least(three, style + "flow{gap:1;wide:10;}", "10 13");
        least(three, style + "flow{gap:1;wide:9;}", "9 18");
        least(three, style + "flow{gap:1;wide:7;}", "7 18");
        least(three, style + "flow{gap:1;wide:6;}", "7 18");
        least(three, style + "flow{gap:1;wide:1;}", "7 18");
        least(three, style + "flow{gap:1;wide:1;pad:9;line:3;}", "31 42");
        least(three, style + "flow{gap:1;wide:30;pad:9;line:3;}", "31 42");
        least("flow{gap gap}", "gap{wide:9;}flow{wide:10;}", "10 0");
        least("flow{gap gap}", "gap{wide:9;}flow{wide:10;gap:2;}", "10 2");
        least("flow", "flow{wide:1;pad:9;gap:5;}", "18 18");
        least("flow", "", "0 0");
        String same = "flow{gap gap gap gap gap}";
        places(16, 16, same, "gap{wide:5;tall:2;}", "0 0 5 2", "5 0 5 2", "10 0 5 2", "0 2 5 2", "5 2 5 2");
        places(16, 16, same, "gap{wide:4;tall:2;}", "0 0 4 2", "4 0 4 2", "8 0 4 2", "12 0 4 2", "0 2 4 2");
        places(16, 16, same, "gap{wide:7;tall:2;}flow{gap:2;}", "0 0 7 2", "9 0 7 2", "0 4 7 2", "9 4 7 2", "0 8 7 2");
        places(16, 16, same, "gap{wide:7;tall:2;}flow{gap:3;}", "0 0 7 2", "0 5 7 2", "0 10 7 2", "0 15 7 2", "0 20 7 2");
        places(16, 16, same, "gap{wide:20;tall:2;}", "0 0 20 2", "0 2 20 2", "0 4 20 2");
        places(16, 16, "flow{gap.b gap.a gap.c}", style + "flow{align:2;}", "0 0 7 9", "7 0 5 3", "12 0 2 4");
        places(16, 16, "flow{gap.b gap.a gap.c}", style + "flow{dir:1;}", "9 0 7 9", "4 0 5 3", "2 0 2 4");
    }

    /** A box's CONTENT is its place less the frame on all sides, not below 0. */
    private static void content() {
        places(16, 16, "stack{gap}", "stack{pad:7;}", "7 7 2 2");
        places(16, 16, "stack{gap}", "stack{pad:8;}", "8 8 0 0");
        places(16, 16, "stack{gap}", "stack{pad:9;}", "9 9 0 0");
        places(16, 16, "stack{gap}", "stack{pad:9;line:3;}", "12 12 0 0");
        places(16, 16, "row{gap}", "row{pad:9;}gap{wide:4;tall:4;}", "9 9 4 0");
        places(16, 16, "row{gap}", "row{pad:9;align:0;}gap{wide:4;tall:4;}", "9 9 4 4");
        places(16, 16, "scroll{gap}", "scroll{pad:9;}", "9 9 0 0");
        places(16, 16, "flow{gap gap}", "flow{pad:9;}gap{wide:1;tall:1;}", "9 9 1 1", "9 10 1 1");
        places(16, 16, "grid{gap gap}", "grid{pad:9;}gap{wide:1;tall:1;}", "9 9 1 1", "10 9 1 1");
        places(16, 16, "stack{gap}", "stack{pad:9;dir:1;align:0;}gap{wide:3;}", "6 9 3 0");
    }

    /** row, col: what is left is given by grow, 1 more for the first ones with a grow, till all is given. */
    private static void grows() {
        String form = "row{gap.a gap.b gap.c}";
        places(16, 16, form, "gap{wide:5;}", "0 0 5 16", "5 0 5 16", "10 0 5 16");
        places(16, 16, form, "gap{wide:5;grow:1;}", "0 0 6 16", "6 0 5 16", "11 0 5 16");
        places(17, 16, form, "gap{wide:5;grow:1;}", "0 0 6 16", "6 0 6 16", "12 0 5 16");
        places(18, 16, form, "gap{wide:5;grow:1;}", "0 0 6 16", "6 0 6 16", "12 0 6 16");
        places(19, 16, form, "gap{wide:5;grow:1;}", "0 0 7 16", "7 0 6 16", "13 0 6 16");
        places(16, 16, form, "gap{wide:5;}.b,.c{grow:1;}", "0 0 5 16", "5 0 6 16", "11 0 5 16");
        places(16, 16, form, "gap{wide:5;}.c{grow:9;}", "0 0 5 16", "5 0 5 16", "10 0 6 16");
        places(17, 16, form, "gap{wide:5;}.a,.c{grow:9;}", "0 0 6 16", "6 0 5 16", "11 0 6 16");
        places(25, 16, form, "gap{wide:5;}.a{grow:1;}.c{grow:2;}", "0 0 9 16", "9 0 5 16", "14 0 11 16");
        places(16, 16, "row{gap.a gap.b}", "gap{wide:8;grow:1;}", "0 0 8 16", "8 0 8 16");
        places(16, 16, "row{gap.a gap.b}", "gap{wide:9;grow:1;}", "0 0 9 16", "9 0 9 16");
        places(17, 16, "row{gap.a gap.b}", "gap{wide:8;}.b{grow:1;}", "0 0 8 16", "8 0 9 16");
        places(16, 16, "row{gap.a gap.b}", "gap{wide:5;grow:1;}row{gap:5;}", "0 0 6 16", "11 0 5 16");
        places(16, 16, "row{gap.a gap.b}", "gap{wide:5;grow:1;}row{gap:6;}", "0 0 5 16", "11 0 5 16");
        places(16, 16, "row{gap.a gap.b}", "gap{wide:5;grow:1;}row{gap:7;}", "0 0 5 16", "12 0 5 16");
        places(96, 16, "row{gap.a gap.b}", ".a{grow:9;}.b{grow:1;}", "0 0 87 16", "87 0 9 16");
        places(16, 16, "row{gap.a gap.h gap.c}", "gap{wide:5;grow:1;}.h{hide:1;}row{gap:1;}", "0 0 8 16", "0 0 0 0", "9 0 7 16");
        String col = "col{gap.a gap.b gap.c}";
        places(16, 16, col, "gap{tall:5;grow:1;}", "0 0 16 6", "0 6 16 5", "0 11 16 5");
        places(16, 17, col, "gap{tall:5;}.b,.c{grow:1;}", "0 0 16 5", "0 5 16 6", "0 11 16 6");
        places(16, 16, col, "gap{tall:6;grow:1;}", "0 0 16 6", "0 6 16 6", "0 12 16 6");
        places(16, 16, "grid{gap gap}", "gap{wide:4;grow:9;}", "0 0 8 16", "8 0 8 16");
    }

    /** align: 3 the whole, else the least size, at 0, in the middle (half the rest), at the end; a rest below 0 is 0. */
    private static void aligns() {
        int[][] due = {{0, 13, 0, 13}, {1, 13, 1, 13}, {2, 13, 3, 13}, {3, 13, 0, 16}, {0, 14, 0, 14}, {1, 14, 1, 14}, {2, 14, 2, 14},
            {1, 15, 0, 15}, {2, 15, 1, 15}, {1, 16, 0, 16}, {2, 16, 0, 16}, {3, 16, 0, 16}, {0, 17, 0, 17}, {1, 17, 0, 17},
            {2, 17, 0, 17}, {3, 17, 0, 16}, {1, 20, 0, 20}, {2, 20, 0, 20}};
        for (int[] d : due) {
            places(16, 16, "row{gap}", "row{align:" + d[0] + ";}gap{tall:" + d[1] + ";}", "0 " + d[2] + " 0 " + d[3]);
            places(16, 16, "col{gap}", "col{align:" + d[0] + ";}gap{wide:" + d[1] + ";}", d[2] + " 0 " + d[3] + " 0");
            String both = d[2] + " " + d[2] + " " + d[3] + " " + d[3];
            String style = "{align:" + d[0] + ";}gap{wide:" + d[1] + ";tall:" + d[1] + ";}";
            places(16, 16, "stack{gap}", "stack" + style, both);
            places(16, 16, "tabs{stack{gap}}", "stack" + style + "tabs{tall:24;}", "0 8 16 8");
            if (d[1] <= 16) {
                places(16, 16, "grid(cols=1){gap}", "grid" + style, both);
                places(18, 18, "stack{gap}", "stack{pad:1;}stack" + style,
                    (d[2] + 1) + " " + (d[2] + 1) + " " + d[3] + " " + d[3]);
            }
        }
        places(17, 17, "grid{gap gap gap gap}", "grid{align:1;gap:1;}gap{wide:3;tall:4;}", "2 2 3 4", "11 2 3 4", "2 11 3 4", "11 11 3 4");
        places(17, 17, "grid{gap gap gap gap}", "grid{align:2;gap:1;}gap{wide:3;tall:4;}", "5 4 3 4", "14 4 3 4", "5 13 3 4", "14 13 3 4");
    }

    /** With dir 1 a child at x, w wide, stands at the content's width - x - w. */
    private static void turned() {
        places(16, 16, "row{gap gap}", "row{dir:1;pad:1;gap:2;}gap{wide:3;}", "12 1 3 14", "7 1 3 14");
        places(16, 16, "col{gap}", "col{dir:1;align:0;pad:1;}gap{wide:3;}", "12 1 3 0");
        places(16, 16, "col{gap}", "col{dir:1;align:2;pad:1;}gap{wide:3;}", "1 1 3 0");
        places(16, 16, "col{gap}", "col{dir:1;align:1;pad:1;}gap{wide:3;}", "7 1 3 0");
        places(16, 16, "col{gap}", "col{align:1;pad:1;}gap{wide:3;}", "6 1 3 0");
        places(16, 16, "col{gap}", "col{dir:1;align:0;}gap{wide:20;}", "-4 0 20 0");
        places(16, 16, "grid{gap gap}", "grid{dir:1;gap:2;}", "9 0 7 16", "0 0 7 16");
        places(16, 16, "scroll{gap}", "scroll{dir:1;}gap{wide:20;}", "-4 0 20 16");
        places(16, 16, "row{row{gap gap}}", "row{dir:1;}row row{dir:0;grow:1;}gap{wide:3;}", "0 0 16 16", "0 0 3 16", "3 0 3 16");
    }

    /** scroll: its child is as wide and high as the content, at least its least size; SCROLLED lines higher. */
    private static void scrolls() {
        places(16, 16, "scroll{gap}", "gap{wide:15;tall:15;}", "0 0 16 16");
        places(16, 16, "scroll{gap}", "gap{wide:16;tall:16;}", "0 0 16 16");
        places(16, 16, "scroll{gap}", "gap{wide:17;tall:17;}", "0 0 17 17");
        places(16, 16, "scroll{gap}", "gap{wide:15;tall:15;}scroll{align:0;}", "0 0 16 16");
        int[][] due = {{15, 5, 0}, {16, 5, 0}, {17, 1, 1}, {17, 1000, 1}, {21, 1, 5}, {22, 1, 6}, {23, 1, 6}, {23, 2, 7}, {23, -1, 0},
            {23, 0, 0}, {23, -1000, 0}};
        for (int[] d : due) {
            ScreenKit kit = Check.made(16, 16, "scroll{gap}", "gap{tall:" + d[0] + ";}");
            kit.point(3, 3);
            Check.same("turned", kit.wheel(d[1]), 0);
            Check.same("scrolled by " + d[1] + " of " + d[0], kit.widget(0, 14), d[2]);
            Check.same("higher", kit.widget(1, 5), -d[2]);
        }
        ScreenKit kit = Check.made(16, 16, "scroll{gap}", "gap{tall:40;}");
        kit.point(3, 3);
        kit.wheel(3);
        kit.wheel(-2);
        Check.same("by 6 n lines", kit.widget(0, 14), 6);
        kit.wheel(-2);
        Check.same("0 at least", kit.widget(0, 14), 0);
        kit.wheel(1000);
        Check.same("to the end", kit.widget(0, 14), 24);
        Check.style(kit, "gap{tall:39;}");
        Check.same("held as it is placed", kit.widget(0, 14), 23);
        Check.style(kit, "gap{tall:64;}");
        Check.same("stays so", kit.widget(0, 14), 23);
        Check.style(kit, "gap{tall:64;hide:1;}");
        Check.same("a hidden child has no height", kit.widget(0, 14), 0);
        String[] forms = {"scroll", "scroll{dialog(bind=1){gap}}"};
        for (String form : forms) {
            kit = Check.made(16, 16, form, "gap{tall:40;}");
            kit.point(3, 3);
            kit.wheel(5);
            Check.same("nothing to scroll", kit.widget(0, 14), 0);
            kit.wheel(-5);
            Check.same("nor back", kit.widget(0, 14), 0);
            Check.style(kit, "gap{tall:40;}scroll{pad:9;}");
            kit.wheel(5);
            Check.same("nor without a content", kit.widget(0, 14), 0);
        }
    }

    /** VISIBLE are the pixels of the place within the screen and the contents of all boxes around it. */
    private static void visible() {
        ScreenKit kit = Check.made(20, 20, "stack{stack{gap}}", "stack{pad:2;line:1;align:0;}stack stack{wide:10;tall:12;pad:1;}"
            + "gap{wide:90;tall:60;}");
        Check.same("places", Check.place(kit, 1) + "/" + Check.place(kit, 2), "3 3 94 64/5 5 90 60");
        int[][] due = {{4, 4, 1}, {5, 5, 2}, {16, 16, 2}, {17, 16, 0}, {16, 17, 0}, {4, 5, 1}, {5, 4, 1}, {2, 5, 0}, {3, 3, 1}};
        for (int[] d : due) {
            Check.same("over " + d[0] + ", " + d[1], kit.point(d[0], d[1]), d[2]);
        }
        int[][] beside = {{-1, 5}, {5, -1}, {20, 5}, {5, 20}, {Integer.MIN_VALUE, 5}, {5, Integer.MAX_VALUE}};
        for (int[] b : beside) {
            Check.same("beside the screen", kit.point(b[0], b[1]), -1);
        }
        int[][] corners = {{0, 0}, {19, 0}, {0, 19}, {19, 19}};
        for (int[] c : corners) {
            Check.same("a corner", kit.point(c[0], c[1]), 0);
        }
        kit = Check.made(20, 20, "stack{gap}", "stack{align:0;}gap{wide:1;tall:1;}");
        Check.same("one pixel", kit.point(0, 0), 1);
        Check.same("one beside", kit.point(1, 0), 0);
        Check.same("one below", kit.point(0, 1), 0);
        Check.style(kit, "stack{align:0;}gap{wide:1;}");
        Check.same("no pixel", kit.point(0, 0), 0);
    }

    /** Widget 0 has the whole screen, hidden ones a place of 0. */
    private static void whole() {
        for (int side = 16; side <= 64; side += 16) {
            ScreenKit kit = Check.made(side + 32, side, "gap", "gap{wide:5;}");
            Check.same("the whole screen", Check.place(kit, 0), "0 0 " + (side + 32) + " " + side);
            Check.same("its least size all the same", Check.least(kit, 0), "5 0");
        }
        ScreenKit kit = Check.made(20, 20, "col{gap label\"a\" gap}", "gap,label{tall:4;}label{hide:1;}");
        Check.same("hidden", kit.widget(2, 10) + Check.place(kit, 2), "10 0 0 0");
        Check.same("passed over", Check.place(kit, 3), "0 4 20 4");
        Check.style(kit, "col{hide:1;}");
        Check.same("all of it", kit.widget(0, 10) + Check.place(kit, 0) + kit.widget(3, 10) + Check.place(kit, 3), "10 0 0 010 0 0 0");
    }

    /** widget(): each of its numbers, and none beside them. */
    private static void numbers() {
        ScreenKit kit = Check.made(40, 40, "row{gap list(rows=9,bind=15) gap#x.a\"abc\"}", "gap{wide:3;}");
        int[] due = {13, 0, 0, 2, 33, 0, 3, 40, 3, 0, 0, 0, -1, 3, 0, -1};
        for (int what = 0; what < 16; what++) {
            Check.same("number " + what, kit.widget(3, what), due[what]);
        }
        Check.same("a cell", kit.widget(2, 12), 15);
        Check.same("a row", kit.widget(2, 15), 0);
        Check.same("of widget 0", kit.widget(0, 1) * 10 + kit.widget(0, 3), -10);
        Check.same("children", kit.widget(0, 2), 3);
        int[] none = {-1, 16, Integer.MIN_VALUE, Integer.MAX_VALUE};
        for (int what : none) {
            Check.same("none " + what, kit.widget(3, what), -1);
        }
        Check.same("no widget", kit.widget(4, 0) + kit.widget(-1, 0), -2);
        Check.form(kit, "col{list(rows=9) gap tabs{gap} scroll field slider}");
        Check.style(kit, "scroll{tall:12;}");
        for (int w = 0; w < 7; w++) {
            Check.same("no top, nothing scrolled", kit.widget(w, 14), 0);
        }
    }

    public static void main(String[] args) {
        frames();
        contents();
        lines();
        grids();
        flows();
        content();
        grows();
        aligns();
        turned();
        scrolls();
        visible();
        whole();
        numbers();
        Check.end("EdgePlaceTest");
    }
}
