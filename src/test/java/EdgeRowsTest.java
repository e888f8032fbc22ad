/** Points 8, 13 and 14 of the document and promises 20, 21, 29 to 31: rows of lists, trees, tables; edge by edge. */
public final class EdgeRowsTest {
    private static String times(String text, int n) {
        return text.repeat(n);
    }

    private static ScreenKit made(int height, String form) {
        ScreenKit kit = new ScreenKit(40, 64);
        Check.form(kit, "col{" + form + " gap}");
        Check.style(kit, "gap{grow:1;}list,tree,table{tall:" + height + ";hide:0;}col{gap:0;}");
        kit.focus(1);
        return kit;
    }

    /** A widget, number 1, in a place that is just so high. */
    private static ScreenKit sized(int height, String form) {
        boolean alone = height > 56;
        int pad = Math.max(0, (9 - height) / 2);
        ScreenKit kit = new ScreenKit(40, alone ? height : height + 8 + 2 * pad);
        Check.form(kit, (alone ? "row{" : "tabs{") + form + "}");
        Check.style(kit, "tabs{pad:" + pad + ";}");
        kit.focus(1);
        Check.same("so high", kit.widget(1, 7), height);
        kit.point(20, kit.widget(1, 5));
        return kit;
    }

    /** Row and top. */
    private static void is(ScreenKit kit, String what, int row, int top) {
        Check.same(what, kit.widget(1, 15) + " " + kit.widget(1, 14), row + " " + top);
    }

    private static void press(ScreenKit kit, int x, int y) {
        kit.point(x, y);
        kit.down();
        kit.up();
    }

    // ---- lists ----

    /** Keys 9, 10 (both from none: row 0; not beyond the first and last), 3 first, 4 last; without rows nothing. */
    private static void listKeys() {
        int[] none = {-1, 10, Integer.MIN_VALUE, Integer.MAX_VALUE};
        for (int v : none) {
            int[][] due = {{9, 0, 0}, {10, 0, 0}, {3, 0, 0}, {4, 9, 6}};
            for (int[] d : due) {
                ScreenKit kit = made(24, "list(rows=10,bind=1)");
                kit.put(1, v);
                Check.same("the key", kit.key(d[0], false), 1);
                is(kit, "key " + d[0] + " from none, " + v, d[1], d[2]);
                Check.same("its cell", kit.cell(1), d[1]);
            }
        }
        int[][] due = {{0, 9, 0}, {0, 10, 1}, {1, 9, 0}, {8, 10, 9}, {9, 10, 9}, {9, 9, 8}, {5, 3, 0}, {5, 4, 9}, {0, 3, 0}, {9, 4, 9}};
        for (int[] d : due) {
            ScreenKit kit = made(24, "list(rows=10,bind=1)");
            kit.put(1, d[0]);
            kit.key(d[1], d[0] % 2 == 0);
            Check.same("key " + d[1] + " from " + d[0], kit.cell(1), d[2]);
        }
        int[] keys = {9, 10, 3, 4};
        for (int k : keys) {
            ScreenKit kit = made(24, "list(bind=1)");
            kit.put(1, -7);
            Check.same("the key", kit.key(k, false), 1);
            is(kit, "without rows, key " + k, -1, 0);
            Check.same("its cell", kit.cell(1), -7);
            kit = made(24, "list(rows=1)");
            kit.key(k, false);
            is(kit, "one row, key " + k, 0, 0);
            kit = made(24, "list(rows=1000000)");
            kit.key(4, false);
            is(kit, "a million rows", 999999, 999996);
            kit.key(10, false);
            is(kit, "not beyond the last", 999999, 999996);
        }
        ScreenKit kit = made(24, "list(rows=10,bind=0)");
        kit.key(4, false);
        Check.same("cell 0", kit.cell(0), 9);
        for (int k = 1; k <= 127; k++) {
            boolean row = k == 9 || k == 10 || k == 3 || k == 4;
            if (k != 13 && !row && kit.key(k, false) != -4) {
                is(kit, "other keys, " + k, 9, 6);
            }
        }
    }

    /** The top changes as little as it must for the row to be seen wholly; at least one is. */
    private static void listTops() {
        int[][] whole = {{1, 1}, {5, 1}, {6, 1}, {11, 1}, {12, 2}, {17, 2}, {18, 3}, {23, 3}, {24, 4}, {29, 4}, {30, 5}, {54, 9}, {59, 9},
            {60, 10}, {63, 10}};
        for (int[] w : whole) {
            ScreenKit kit = sized(w[0], "list(rows=10)");
            kit.key(4, false);
            is(kit, "the last in " + w[0] + " lines", 9, 10 - w[1]);
            for (int n = 9; n > 9 - w[1]; n--) {
                is(kit, "seen yet", n, 10 - w[1]);
                kit.key(9, false);
            }
            if (w[1] < 10) {
                is(kit, "one up", 9 - w[1], 9 - w[1]);
            }
            kit.key(3, false);
            is(kit, "the first", 0, 0);
            for (int n = 1; n < w[1]; n++) {
                kit.key(10, false);
                is(kit, "seen", n, 0);
            }
            if (w[1] < 10) {
                kit.key(10, false);
                is(kit, "one down", w[1], 1);
            }
            kit.wheel(1000);
            Check.same("the wheel in " + w[0] + " lines", kit.widget(1, 14), 10 - w[1]);
            kit.wheel(-1);
            Check.same("back", kit.widget(1, 14), Math.max(0, 9 - w[1]));
        }
    }

    /** The wheel by n: the top n more, 0 .. how many rows there are less those that are seen wholly. */
    private static void listWheels() {
        int[][] due = {{10, 24, 5, 5}, {10, 24, 6, 6}, {10, 24, 7, 6}, {10, 24, 1000, 6}, {10, 24, -1, 0}, {10, 24, -1000, 0}, {10, 24, 0, 0},
            {5, 24, 9, 1}, {4, 24, 9, 0}, {3, 24, 9, 0}, {1, 24, 9, 0}, {0, 24, 9, 0}, {10, 29, 9, 6}, {10, 30, 9, 5}};
        for (int[] d : due) {
            ScreenKit kit = made(d[1], "list(rows=" + d[0] + ")");
            kit.point(3, 3);
            Check.same("the list", kit.wheel(d[2]), 1);
            Check.same("top of " + d[0] + " in " + d[1] + " by " + d[2], kit.widget(1, 14), d[3]);
        }
        ScreenKit kit = made(24, "list(rows=10)");
        kit.point(3, 3);
        Check.same("1000", kit.wheel(1000) + kit.wheel(-1000), 2);
        Check.same("1001", kit.wheel(1001) + kit.wheel(-1001), -8);
        kit.point(3, 23);
        Check.same("its last line", kit.wheel(1), 1);
        kit.point(3, 24);
        Check.same("below", kit.wheel(1), -1);
        kit.point(-1, 3);
        Check.same("beside the screen", kit.wheel(1), -1);
    }

    /** down(): the row there is selected. */
    private static void listPresses() {
        ScreenKit kit = made(27, "list(rows=5,bind=1)");
        int[][] due = {{0, 0}, {5, 0}, {6, 1}, {23, 3}, {24, 4}, {26, 4}};
        for (int[] d : due) {
            press(kit, 3, d[0]);
            Check.same("line " + d[0], kit.cell(1), d[1]);
        }
        kit.wheel(1);
        press(kit, 3, 18);
        Check.same("from the top on", kit.cell(1), 4);
        press(kit, 3, 24);
        Check.same("behind the last", kit.cell(1), 4);
        is(kit, "the top stays", 4, 1);
        kit = made(24, "list(bind=1)");
        kit.put(1, 5);
        press(kit, 3, 3);
        Check.same("without rows", kit.cell(1), 5);
        kit = made(30, "list(rows=5,bind=1)");
        Check.style(kit, "list{pad:3;tall:30;}");
        int[][] frames = {{3, 2, 7}, {3, 3, 0}, {2, 3, 7}, {36, 3, 0}, {37, 3, 7}, {3, 26, 3}, {3, 27, 7}};
        for (int[] f : frames) {
            kit.put(1, 7);
            press(kit, f[0], f[1]);
            Check.same("at " + f[0] + ", " + f[1], kit.cell(1), f[2]);
        }
    }

    /** The row is selected first; what follows of it for the places counts for the top. */
    private static void listThenTop() {
        ScreenKit kit = new ScreenKit(40, 60);
        Check.form(kit, "col{list(rows=20,bind=1) check(bind=1)}");
        Check.style(kit, "list{grow:1;}check:check{tall:18;}");
        kit.focus(1);
        Check.same("nine rows", kit.widget(1, 7), 54);
        kit.key(4, false);
        Check.same("seven rows", kit.widget(1, 7), 42);
        is(kit, "seen in these", 19, 13);
    }

    // ---- trees ----

    private static void nodes(String text, int nodes, String shown, String opened) {
        ScreenKit kit = made(24, "tree(bind=1)\"" + text + "\"");
        int n = 0;
        while (n < 50 && kit.put(1, n) <= n && kit.widget(1, 15) == n) {
            n++;
        }
        Check.same("nodes of " + text, n, nodes);
        Check.same("shown of " + text, Check.shown(kit, 1), shown);
        for (int i = 0; i < nodes; i++) {
            kit.put(1, i);
            kit.key(2, false);
        }
        Check.same("all of " + text, Check.shown(kit, 1), opened);
    }

    /** Letters and digits are nodes; ( behind a node of this level: its children, till ) ; other signs are nothing. */
    private static void treeTexts() {
        nodes("", 0, "", "");
        nodes("a", 1, "0", "0");
        nodes("ab", 2, "0 1", "0 1");
        nodes("a(b)", 2, "0", "0 1");
        nodes("a(b", 2, "0", "0 1");
        nodes("a(b)c", 3, "0 2", "0 1 2");
        nodes("a()b", 2, "0 1", "0 1");
        nodes("(a)b", 2, "0 1", "0 1");
        nodes("((a", 1, "0", "0");
        nodes(")a)b)", 2, "0 1", "0 1");
        nodes("a((b)c)d", 4, "0 2 3", "0 1 2 3");
        nodes("a(b)(c)d", 4, "0 3", "0 1 2 3");
        nodes("a(b(c)d)e", 5, "0 4", "0 1 2 3 4");
        nodes("a(b)))c(d)", 4, "0 2", "0 1 2 3");
        nodes("a.(b)", 2, "0", "0 1");
        nodes("a (b), c", 3, "0 2", "0 1 2");
        nodes("/09:@AZ[`az{", 6, "0 1 2 3 4 5", "0 1 2 3 4 5");
        nodes("a(b(c(d(e(f(g(h(i(j(k(l(m(n(o(p(q(r(s(t(", 20, "0", "0 1 2 3 4 5 6 7 8 9 10 11 12 13 14 15 16 17 18 19");
        StringBuilder b = new StringBuilder("0");
        for (int i = 1; i < 40; i++) {
            b.append(' ').append(i);
        }
        nodes(times("x", 40), 40, b.toString(), b.toString());
        nodes(times("(", 40), 0, "", "");
        nodes(times(")", 39) + "a", 1, "0", "0");
    }

    /** down() within the 6 columns behind the indent, of a node with children: opened, or closed; else selected. */
    private static void treePresses() {
        for (int pad = 0; pad < 4; pad += 3) {
            int[][] due = {{0, 1}, {5, 1}, {6, 0}, {39 - 2 * pad, 0}};
            for (int[] d : due) {
                ScreenKit kit = made(36, "tree(bind=1)\"a(b(c))\"");
                Check.style(kit, "tree{pad:" + pad + ";tall:36;}");
                kit.put(1, -1);
                press(kit, pad + d[0], pad + 3);
                Check.same("pressed at " + d[0], Check.shown(kit, 1) + "/" + kit.cell(1), d[1] == 1 ? "0 1/-1" : "0/0");
            }
            int[][] second = {{0, 0}, {3, 0}, {4, 1}, {9, 1}, {10, 0}};
            for (int[] d : second) {
                ScreenKit kit = made(36, "tree(bind=1)\"a(b(c))\"");
                Check.style(kit, "tree{pad:" + pad + ";tall:36;}");
                press(kit, pad + 1, pad + 3);
                kit.put(1, -1);
                press(kit, pad + d[0], pad + 6);
                Check.same("in it pressed at " + d[0], Check.shown(kit, 1) + "/" + kit.cell(1), d[1] == 1 ? "0 1 2/-1" : "0 1/1");
                kit.put(1, -1);
                press(kit, pad + d[0], pad + 11);
                Check.same("again at " + d[0], Check.shown(kit, 1) + "/" + kit.cell(1), d[1] == 1 ? "0 1/-1" : "0 1/1");
            }
        }
        ScreenKit kit = made(36, "tree(bind=1)\"ab(c)\"");
        kit.put(1, -1);
        press(kit, 2, 3);
        Check.same("of a node without children", Check.shown(kit, 1) + "/" + kit.cell(1), "0 1/0");
        press(kit, 2, 12);
        Check.same("below the last row", kit.cell(1), 0);
        press(kit, 2, 11);
        Check.same("opened", Check.shown(kit, 1) + "/" + kit.cell(1), "0 1 2/0");
        press(kit, 5, 13);
        Check.same("its child", Check.shown(kit, 1) + "/" + kit.cell(1), "0 1 2/2");
        press(kit, 2, 7);
        Check.same("closed; selected, shown or not", Check.shown(kit, 1) + "/" + kit.widget(1, 15), "0 1/2");
        kit = made(36, "tree(bind=1)\"(a)b\"");
        kit.put(1, -1);
        press(kit, 5, 3);
        Check.same("behind a ( that is nothing", Check.shown(kit, 1) + "/" + kit.cell(1), "0 1/0");
        kit = made(36, "tree\"ab(c)\"");
        Check.same("none selected", kit.widget(1, 15), -1);
        press(kit, 7, 7);
        Check.same("the one selected latest", kit.widget(1, 15), 1);
    }

    /** Keys 9, 10, 3, 4 by shown rows, from one that isn't shown as from none; 2 opens; 1 closes, or goes to the node around. */
    private static void treeKeys() {
        String text = "tree(bind=1)\"a(b(c)d)e(f)\"";
        // a0 b1 c2 d3 e4 f5
        int[][] closed = {{0, 9, 0}, {0, 10, 4}, {4, 10, 4}, {4, 9, 0}, {4, 3, 0}, {0, 4, 4}, {2, 9, 0}, {2, 10, 0}, {5, 10, 0}, {5, 4, 4},
            {5, 3, 0}, {-1, 9, 0}, {-1, 10, 0}, {6, 10, 0}, {0, 1, 0}, {4, 1, 4}, {1, 1, 1}, {5, 1, 5}, {-1, 1, -1}, {6, 2, 6}};
        for (int[] c : closed) {
            ScreenKit kit = made(36, text);
            kit.put(1, c[0]);
            kit.key(c[1], false);
            Check.same("closed: key " + c[1] + " from " + c[0], Check.shown(kit, 1) + "/" + kit.cell(1), "0 4/" + c[2]);
        }
        int[][] opened = {{0, 10, 1}, {1, 10, 2}, {2, 10, 3}, {3, 10, 4}, {4, 9, 3}, {5, 9, 0}, {0, 4, 4}, {2, 1, 1}, {3, 1, 0}, {4, 1, 4},
            {2, 2, 2}, {1, 2, 1}};
        for (int[] o : opened) {
            ScreenKit kit = made(36, text);
            kit.put(1, 0);
            kit.key(2, false);
            kit.put(1, 1);
            kit.key(2, true);
            kit.put(1, o[0]);
            kit.key(o[1], false);
            Check.same("opened: key " + o[1] + " from " + o[0], Check.shown(kit, 1) + "/" + kit.cell(1), "0 1 2 3 4/" + o[2]);
        }
        ScreenKit kit = made(36, text);
        kit.put(1, 0);
        kit.key(2, false);
        Check.same("opened", Check.shown(kit, 1), "0 1 3 4");
        kit.key(2, false);
        Check.same("stays so", Check.shown(kit, 1), "0 1 3 4");
        kit.key(1, false);
        Check.same("closed", Check.shown(kit, 1) + "/" + kit.cell(1), "0 4/0");
        kit.key(1, false);
        Check.same("none around", Check.shown(kit, 1) + "/" + kit.cell(1), "0 4/0");
        kit.put(1, 1);
        kit.key(2, false);
        kit.key(1, false);
        Check.same("of one that isn't shown nothing", Check.shown(kit, 1) + "/" + kit.cell(1), "0 4/1");
        kit.put(1, 0);
        kit.key(2, false);
        Check.same("it wasn't opened", Check.shown(kit, 1), "0 1 3 4");
        kit = made(36, "tree(bind=1)\"\"");
        int[] keys = {1, 2, 3, 4, 9, 10};
        for (int k : keys) {
            kit.put(1, -1);
            kit.key(k, false);
            Check.same("without nodes, key " + k, kit.cell(1) * 10 + kit.widget(1, 14), -10);
        }
        kit = made(36, "tree(bind=1)\"a(b)\"");
        Check.style(kit, "tree{dir:1;tall:36;}");
        kit.key(2, false);
        Check.same("not turned by dir", Check.shown(kit, 1), "0 1");
        for (int k = 1; k <= 127; k++) {
            boolean row = k <= 4 || k == 9 || k == 10;
            if (k != 13 && !row) {
                kit.key(k, false);
                Check.same("other keys, " + k, Check.shown(kit, 1) + "/" + kit.cell(1), "0 1/0");
            }
        }
    }

    /** The top: behind keys the selected one is seen; held to at most the last shown row; the wheel as a list's. */
    private static void treeTops() {
        ScreenKit kit = sized(18, "tree(bind=1)\"a(bcdefgh)i\"");
        kit.put(1, 0);
        kit.key(2, false);
        kit.wheel(1000);
        Check.same("nine, three are seen", kit.widget(1, 14), 6);
        kit.key(4, false);
        is(kit, "the last", 8, 6);
        kit.put(1, 0);
        Check.same("put leaves the top", kit.widget(1, 14), 6);
        kit.key(2, false);
        is(kit, "a key that changes nothing else", 0, 0);
        kit.wheel(5);
        kit.key(1, false);
        is(kit, "closed", 0, 0);
        kit.key(2, false);
        kit.wheel(3);
        kit.put(1, 3);
        kit.key(10, false);
        is(kit, "not changed when it is seen", 4, 3);
        kit.key(10, false);
        is(kit, "nor when it is the last of them", 5, 3);
        kit.key(10, false);
        is(kit, "one more", 6, 4);
        kit = made(30, "tree(bind=1)\"a(bcd)e(fgh)\"");
        kit.put(1, 4);
        kit.key(2, false);
        kit.put(1, 0);
        kit.key(2, false);
        kit.point(3, 3);
        kit.wheel(9);
        Check.same("eight, five are seen", kit.widget(1, 14), 3);
        press(kit, 2, 7);
        Check.same("e is closed", Check.shown(kit, 1) + "/" + kit.widget(1, 14), "0 1 2 3 4/3");
        kit = sized(12, "tree(bind=1)\"a(bcd)\"");
        kit.put(1, 0);
        kit.key(2, false);
        kit.wheel(9);
        Check.same("two of four are seen", kit.widget(1, 14), 2);
        kit.put(1, 1);
        kit.key(1, false);
        is(kit, "around", 0, 0);
        kit.wheel(1);
        press(kit, 7, 8 + 7);
        is(kit, "pressed", 2, 1);
        kit.wheel(-1);
        press(kit, 1, 8);
        is(kit, "one row is shown", 2, 0);
        kit = made(24, "tree\"abcdefgh\"");
        kit.point(3, 3);
        kit.wheel(9);
        Check.same("four of eight are seen", kit.widget(1, 14), 4);
        Check.style(kit, "tree{tall:48;}");
        Check.same("a greater one's top stays", kit.widget(1, 14), 4);
        kit.wheel(0);
        Check.same("till it is turned", kit.widget(1, 14), 0);
        kit = sized(20, "tree(bind=1)\"ab(cd)\"");
        kit.put(1, 1);
        kit.key(2, false);
        kit.wheel(9);
        Check.same("three of four", kit.widget(1, 14), 1);
        Check.tell(kit, "gap").insert(0, 1);
        Check.same("as it was", kit.widget(1, 14), 1);
    }

    private static void shown() {
        ScreenKit kit = made(36, "tree\"ab\"");
        Check.same("the first, the last", kit.shown(1, 0) * 10 + kit.shown(1, 1), 1);
        Check.same("none", kit.shown(1, 2) + kit.shown(1, -1) + kit.shown(0, 0) + kit.shown(2, 0) + kit.shown(3, 0) + kit.shown(-1, 0), -6);
        kit = made(36, "list(rows=5)");
        Check.same("of a list", kit.shown(1, 0), -1);
        kit = made(36, "table");
        Check.same("of a table without data", kit.shown(1, 0), -1);
        Check.tell(kit, "h").data();
        Check.same("of a head", kit.shown(1, 0), -1);
        Check.tell(kit, "h\na").data();
        Check.same("of a row", kit.shown(1, 0) * 10 + kit.shown(1, 1), -1);
    }

    // ---- tables ----

    private static void data(String text, int due) {
        ScreenKit kit = made(40, "table");
        Check.tell(kit, "h\nold").data();
        Check.same("data " + text, Check.tell(kit, text).data(), due);
        Check.same("lines", kit.count(11), due < 0 ? 2 : due);
    }

    /** data(): lines of 1 to 4 parts of 0 to 8 signs; lines without a sign are passed over; at most 40. */
    private static void reading() {
        data("", 0);
        data("\n", 0);
        data("\n\n\n", 0);
        data("a", 1);
        data("a\n", 1);
        data("\n\na\n\n\nb\n\n", 2);
        data(" ", 1);
        data(",", 1);
        data(",,,", 1);
        data(",,,,", -1 - 3);
        data("a,b,c,d", 1);
        data("a,b,c,d,", -1 - 7);
        data("a,b,c,d,e", -1 - 7);
        data("a\na,b,c,d,e", -1 - 9);
        data("12345678", 1);
        data("123456789", -1 - 8);
        data("12345678,12345678,12345678,12345678", 1);
        data("12345678,12345678,12345678,123456789", -1 - 35);
        data("12345678,12345678,12345678,12345678,", -1 - 35);
        data("12345678,123456789,,,,", -1 - 17);
        data("        ", 1);
        data("         ", -1 - 8);
        data("\"~!", 1);
        data(times("a\n", 39), 39);
        data(times("a\n", 40), 40);
        data(times("a\n", 40) + "\n\n", 40);
        data(times("a\n", 41), -1 - 80);
        data(times("a\n", 40) + "\n\n,", -1 - 82);
        data(times("a\n", 40) + "123456789", -1 - 80);
        data(times("a\n", 40) + ",,,,", -1 - 80);
        String line = "12345678,abcdefgh,        ,";
        StringBuilder full = new StringBuilder();
        for (int i = 0; i < 40; i++) {
            full.append(line).append("ABCDE").append((char) ('A' + i / 26)).append((char) ('A' + i % 26)).append("Z\n");
        }
        ScreenKit kit = made(40, "table");
        for (int n = 0; n < 4; n++) {
            Check.same("as much as there may be", Check.tell(kit, full.toString()).data(), 40);
            Check.same("rows", kit.filter(1), 39);
            Check.same("the last one", Check.tell(kit, "BNZ").filter(1) * 100 + kit.shown(1, 0), 138);
            Check.same("each of them", Check.tell(kit, "ABCDE").filter(1), 39);
        }
    }

    private static void sorted(String rows, String up, String down) {
        ScreenKit kit = new ScreenKit(40, 64);
        Check.tell(kit, "h\n" + rows).data();
        Check.form(kit, "table");
        press(kit, 3, 3);
        Check.same(rows + " up", Check.shown(kit, 0), up);
        press(kit, 3, 3);
        Check.same(rows + " down", Check.shown(kit, 0), down);
        press(kit, 3, 3);
        StringBuilder b = new StringBuilder("0");
        for (int i = 1; i < rows.split("\n").length; i++) {
            b.append(' ').append(i);
        }
        Check.same(rows + " not at all", Check.shown(kit, 0), b.toString());
    }

    /** Parts of 1 to 7 digits by their values, ahead of all others, these by their signs; equal ones in their order. */
    private static void sorting() {
        sorted("2\n1\n3", "1 0 2", "2 0 1");
        sorted("10\n9\n100", "1 0 2", "2 0 1");
        sorted("0\n00\n000", "0 1 2", "0 1 2");
        sorted("1\n0\n01\n00", "1 3 0 2", "0 2 1 3");
        sorted("a\n0", "1 0", "0 1");
        sorted("0\na", "0 1", "1 0");
        sorted("!\n0", "1 0", "0 1");
        sorted("0\n!", "0 1", "1 0");
        sorted(" \n9999999", "1 0", "0 1");
        sorted("9999999\n1000000\n9999998", "1 2 0", "0 2 1");
        sorted("09999999\n2", "1 0", "0 1");
        sorted("00000001\n2\n10000000", "1 0 2", "2 0 1");
        sorted("12345678\n12345679\n1234567", "2 0 1", "1 0 2");
        sorted("-1\n1\n+1", "1 2 0", "0 2 1");
        sorted("1a\n2\n1", "2 1 0", "0 1 2");
        sorted("a1\n2", "1 0", "0 1");
        sorted("1/\n1:\n5", "2 0 1", "1 0 2");
        sorted("/\n:\n0\n9", "2 3 0 1", "1 0 3 2");
        sorted("b\na\nc", "1 0 2", "2 0 1");
        sorted("ab\naa\nac", "1 0 2", "2 0 1");
        sorted("ab\na\nabc", "1 0 2", "2 0 1");
        sorted("abcdefgh\nabcdefgg\nabcdefg", "2 1 0", "0 1 2");
        sorted("b\nabc", "1 0", "0 1");
        sorted("abc\nb", "0 1", "1 0");
        sorted("B\na\nA\nb", "2 0 1 3", "3 1 0 2");
        sorted("~\n \n!", "1 2 0", "0 2 1");
        sorted("a\n,x\nb", "1 0 2", "2 0 1");
        sorted(",\n5\na", "1 0 2", "2 0 1");
        sorted("a\na\na\na", "0 1 2 3", "0 1 2 3");
        sorted("b\na\nb\na", "1 3 0 2", "0 2 1 3");
        sorted("xa\nxb\nxa", "0 2 1", "1 0 2");
        sorted("a\naa\na\naa", "0 2 1 3", "1 3 0 2");
    }

    /** down() on a head: sorted by it up; down, if it was up; not at all, if it was down. */
    private static void heads() {
        // columns of 13, 13, 14
        ScreenKit kit = made(36, "table(bind=1)");
        Check.tell(kit, "a,b,c\n1,2,9\n2,1,8\n3,0,7\n1,1").data();
        int[][] due = {{0, 0}, {12, 0}, {13, 1}, {25, 1}, {26, 2}, {39, 2}};
        String[] up = {"0 3 1 2", "2 1 3 0", "2 1 0 3"};
        String[] down = {"2 1 0 3", "0 1 3 2", "3 0 1 2"};
        for (int[] d : due) {
            kit.put(1, -1);
            press(kit, d[0], 0);
            Check.same("up at " + d[0], Check.shown(kit, 1), up[d[1]]);
            press(kit, d[0], 5);
            Check.same("down at " + d[0], Check.shown(kit, 1), down[d[1]]);
            press(kit, d[0], 3);
            Check.same("not at all at " + d[0], Check.shown(kit, 1), "0 1 2 3");
            Check.same("no row", kit.cell(1), -1);
        }
        press(kit, 3, 3);
        press(kit, 3, 3);
        press(kit, 15, 3);
        Check.same("another one: up", Check.shown(kit, 1), up[1]);
        press(kit, 3, 3);
        Check.same("and the first again: up", Check.shown(kit, 1), up[0]);
        press(kit, 3, 6);
        Check.same("line 6 is a row", kit.cell(1) + "/" + Check.shown(kit, 1), "0/" + up[0]);
        Check.style(kit, "table{dir:1;tall:36;}");
        int[][] turned = {{39, 0}, {27, 0}, {26, 1}, {14, 1}, {13, 2}, {0, 2}};
        for (int[] t : turned) {
            press(kit, t[0] < 20 ? 39 : 0, 3);
            press(kit, t[0], 3);
            Check.same("turned, at " + t[0], Check.shown(kit, 1), up[t[1]]);
        }
        kit = made(36, "table(bind=1)");
        Check.style(kit, "table{pad:4;tall:36;}");
        Check.tell(kit, "a,b\n2\n1").data();
        int[][] frames = {{6, 3}, {3, 6}, {36, 6}, {6, 34}};
        for (int[] f : frames) {
            kit.put(1, -1);
            press(kit, f[0], f[1]);
            Check.same("in the frame at " + f[0] + ", " + f[1], Check.shown(kit, 1) + "/" + kit.cell(1), "0 1/-1");
        }
        press(kit, 4, 4);
        Check.same("the content's first pixel", Check.shown(kit, 1), "1 0");
        press(kit, 20, 9);
        Check.same("the first one of the second column", Check.shown(kit, 1), "0 1");
        press(kit, 20, 9);
        press(kit, 19, 9);
        Check.same("the last one of the first column", Check.shown(kit, 1), "1 0");
        press(kit, 19, 9);
        Check.same("down", Check.shown(kit, 1), "0 1");
        press(kit, 19, 10);
        Check.same("a row", kit.cell(1), 0);
        kit.data();
        press(kit, 4, 4);
        Check.tell(kit, "a,b\n1\n2").data();
        Check.same("without data there is no head", Check.shown(kit, 1), "1 0");
        kit = made(36, "table");
        Check.tell(kit, "a,b\n2\n1").data();
        kit.data();
        press(kit, 4, 4);
        Check.tell(kit, "a,b\n2\n1").data();
        Check.same("not sorted", Check.shown(kit, 1), "0 1");
        Check.tell(kit, "a\n1,3\n2,2\n3,1").data();
        press(kit, 35, 3);
        Check.same("columns are the head's", Check.shown(kit, 1), "0 1 2");
        press(kit, 35, 3);
        Check.same("this one's down", Check.shown(kit, 1), "2 1 0");
    }

    /** A column that isn't there: not sorted; the sort stays. */
    private static void columns() {
        ScreenKit kit = made(36, "table");
        Check.tell(kit, "a,b\n1,2\n2,1").data();
        press(kit, 30, 3);
        Check.same("by the second", Check.shown(kit, 1), "1 0");
        Check.tell(kit, "a\n1,2\n2,1").data();
        Check.same("it isn't there", Check.shown(kit, 1), "0 1");
        Check.tell(kit, "a,b,c\n1,2\n2,1").data();
        Check.same("it is there again", Check.shown(kit, 1), "1 0");
        kit.data();
        Check.same("no data", Check.shown(kit, 1), "");
        Check.tell(kit, "a,b\n1,2\n2,1\n3").data();
        Check.same("an empty part is behind numbers", Check.shown(kit, 1), "1 0 2");
        for (int n = 0; n < 3; n++) {
            Check.tell(kit, "a,b,c,d\n9,9,9,9\n8,8,8,8\n7,7,7,7").data();
            Check.tell(kit, "a,b,c,d\nx,x,x,x\ny,y,y,y\nz,z,z,z\nw,w,w,w").data();
            Check.tell(kit, "a,b\nq\nq,1\nq\n").data();
            Check.same("parts that a row hasn't are empty", Check.shown(kit, 1), "1 0 2");
        }
    }

    private static void filter(String text, String due) {
        ScreenKit kit = made(36, "table");
        Check.tell(kit, "head,xyz\nabc,def\nab,cd\n12345678,aBc\nb c,,x,end\nabc").data();
        int n = due.isEmpty() ? 0 : due.split(" ").length;
        Check.same("rows with " + text, Check.tell(kit, text).filter(1), n);
        Check.same("they are", Check.shown(kit, 1), due);
    }

    /** FILTER: the tape's signs but 10, the first 8; rows of which a part has them one behind the other. */
    private static void filters() {
        filter("", "0 1 2 3 4");
        filter("\n\n", "0 1 2 3 4");
        filter("a", "0 1 2 4");
        filter("ab", "0 1 4");
        filter("abc", "0 4");
        filter("abcd", "");
        filter("bc", "0 4");
        filter("ac", "");
        filter("cba", "");
        filter("ABC", "");
        filter("aB", "2");
        filter("\"", "");
        filter("12345678", "2");
        filter("1234567", "2");
        filter("123456789", "2");
        filter("1234567\n8", "2");
        filter("1\n2\n3\n45678xyz", "2");
        filter("1234567x", "");
        filter("2345678", "2");
        filter("23456789", "");
        filter("b c", "3");
        filter(" ", "3");
        filter(",", "");
        filter("end", "3");
        filter("x", "3");
        filter("head", "");
        filter("xyz", "");
        ScreenKit kit = made(36, "table");
        Check.same("without data", Check.tell(kit, "a").filter(1), 0);
        Check.tell(kit, "h\nab\nb").data();
        Check.same("it stays", Check.shown(kit, 1), "0");
        for (int n = 0; n < 3; n++) {
            Check.tell(kit, "h\na,a,a,a\na,a,a,a").data();
            Check.tell(kit, "h,h\nb\nb,b").data();
            Check.same("of all it has, and no more", Check.shown(kit, 1), "");
        }
        Check.same("empty at first", made(36, "table").filter(1), 0);
        Check.same("no table", kit.filter(0) + kit.filter(2) + kit.filter(3) + kit.filter(-1), -8);
    }

    /** One row is selected, its number; keys go by rows as they stand, one that doesn't stand as none. */
    private static void tableKeys() {
        ScreenKit kit = made(60, "table(bind=1)");
        Check.tell(kit, "h\n3\n1\n2\n10").data();
        press(kit, 3, 3);
        // 1 2 0 3 as they stand
        int[][] due = {{1, 10, 2}, {2, 10, 0}, {0, 10, 3}, {3, 10, 3}, {3, 9, 0}, {1, 9, 1}, {0, 3, 1}, {0, 4, 3}, {-1, 9, 1}, {-1, 10, 1},
            {4, 9, 1}, {4, 10, 1}, {-1, 4, 3}};
        for (int[] d : due) {
            kit.put(1, d[0]);
            kit.key(d[1], false);
            Check.same("key " + d[1] + " from " + d[0], kit.cell(1), d[2]);
        }
        Check.tell(kit, "1").filter(1);
        Check.same("two stand", Check.shown(kit, 1), "1 3");
        int[][] some = {{0, 9, 1}, {0, 10, 1}, {2, 10, 1}, {1, 10, 3}, {3, 9, 1}, {2, 4, 3}, {2, 3, 1}};
        for (int[] s : some) {
            kit.put(1, s[0]);
            Check.same("selected, as there is such a row", kit.widget(1, 15), s[0]);
            kit.key(s[1], false);
            Check.same("two: key " + s[1] + " from " + s[0], kit.cell(1), s[2]);
        }
        kit.put(1, 4);
        Check.same("no such row", kit.widget(1, 15), -1);
        kit.put(1, 3);
        Check.same("the last", kit.widget(1, 15), 3);
        Check.tell(kit, "zz").filter(1);
        int[] keys = {9, 10, 3, 4, 1, 2, 'a'};
        for (int k : keys) {
            kit.key(k, false);
            Check.same("none stands, key " + k, kit.cell(1) * 10 + kit.widget(1, 14), 30);
        }
        kit.filter(1);
        kit.put(1, 2);
        for (int k = 1; k <= 127; k++) {
            if (k != 13 && k != 9 && k != 10 && k != 3 && k != 4) {
                kit.key(k, false);
                Check.same("other keys, " + k, kit.cell(1), 2);
            }
        }
        kit = made(60, "table");
        Check.tell(kit, "h\n3\n1").data();
        press(kit, 3, 13);
        Check.same("the one selected latest", kit.widget(1, 15), 1);
        press(kit, 3, 18);
        Check.same("below the last", kit.widget(1, 15), 1);
        Check.tell(kit, "h\n3").data();
        Check.same("there is no such row now", kit.widget(1, 15), -1);
        Check.tell(kit, "h\n3\n1").data();
        Check.same("its number", kit.widget(1, 15), 1);
    }

    /** The top of a table: by the rows below the head; held to the last row that stands; 0 at least. */
    private static void tableTops() {
        int[][] whole = {{7, 1}, {11, 1}, {12, 1}, {17, 1}, {18, 2}, {23, 2}, {24, 3}, {30, 4}};
        for (int[] w : whole) {
            ScreenKit kit = sized(w[0], "table(bind=1)");
            Check.tell(kit, "h\n" + times("x\n", 9)).data();
            kit.key(4, false);
            is(kit, "the last in " + w[0], 8, 9 - w[1]);
            kit.wheel(-1000);
            kit.wheel(1000);
            Check.same("the wheel in " + w[0], kit.widget(1, 14), 9 - w[1]);
        }
        ScreenKit kit = sized(18, "table(bind=1)");
        Check.tell(kit, "h\n1\n12\n13\n2\n2\n2").data();
        kit.wheel(9);
        Check.same("two of six rows are seen", kit.widget(1, 14), 4);
        Check.tell(kit, "2").filter(1);
        Check.same("four stand", kit.widget(1, 14), 3);
        Check.tell(kit, "1").filter(1);
        Check.same("three stand", kit.widget(1, 14), 2);
        Check.tell(kit, "3").filter(1);
        Check.same("one stands", kit.widget(1, 14), 0);
        kit.filter(1);
        Check.same("it isn't turned back", kit.widget(1, 14), 0);
        kit.wheel(2);
        Check.tell(kit, "h\n1\n2").data();
        Check.same("two rows", kit.widget(1, 14), 1);
        Check.tell(kit, "h").data();
        Check.same("none", kit.widget(1, 14), 0);
        Check.tell(kit, "h\n1\n2\n3\n4\n5\n6").data();
        kit.wheel(2);
        kit.data();
        Check.same("no data", kit.widget(1, 14), 0);
    }

    public static void main(String[] args) {
        listKeys();
        listTops();
        listWheels();
        listPresses();
        listThenTop();
        treeTexts();
        treePresses();
        treeKeys();
        treeTops();
        shown();
        reading();
        sorting();
        heads();
        columns();
        filters();
        tableKeys();
        tableTops();
        Check.end("EdgeRowsTest");
    }
}
