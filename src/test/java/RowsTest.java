/** Promises 18, 20, 21, 29 to 31: rows of lists, trees and tables: which are shown, selected, at the top. */
public final class RowsTest {
    private static void lists() {
        ScreenKit kit = new ScreenKit(40, 20);
        Check.form(kit, "list(rows=10,bind=1)");
        kit.focus(0);
        kit.put(1, -1);
        Check.same("none", kit.widget(0, 15), -1);
        kit.key(9, false);
        Check.same("up from none", kit.cell(1), 0);
        kit.put(1, 10);
        Check.same("no such row", kit.widget(0, 15), -1);
        kit.key(10, false);
        Check.same("down from none", kit.cell(1), 0);
        kit.key(9, false);
        Check.same("not beyond the first", kit.cell(1), 0);
        for (int n = 0; n < 3; n++) {
            kit.key(10, false);
        }
        Check.same("three down", kit.cell(1) * 10 + kit.widget(0, 14), 31);
        kit.key(4, false);
        Check.same("the last", kit.cell(1) * 10 + kit.widget(0, 14), 97);
        kit.key(10, false);
        Check.same("not beyond the last", kit.cell(1), 9);
        kit.key(9, false);
        kit.key(9, false);
        Check.same("seen yet", kit.cell(1) * 10 + kit.widget(0, 14), 77);
        kit.key(9, false);
        Check.same("one up", kit.cell(1) * 10 + kit.widget(0, 14), 66);
        kit.put(1, 1);
        Check.same("put leaves the top", kit.widget(0, 14), 6);
        kit.key(9, false);
        Check.same("a key doesn't", kit.cell(1) * 10 + kit.widget(0, 14), 0);
        kit.point(3, 13);
        kit.wheel(2);
        kit.down();
        Check.same("the row there", kit.cell(1) * 10 + kit.widget(0, 14), 42);
        kit.point(3, 1);
        Check.same("not by moving", kit.cell(1), 4);
        kit.up();
        kit.point(3, 19);
        kit.down();
        Check.same("one that is seen in part", kit.cell(1) * 10 + kit.widget(0, 14), 52);
        kit.up();
        Check.form(kit, "list(rows=2)");
        kit.point(3, 13);
        kit.down();
        Check.same("no row there", kit.widget(0, 15), -1);
        kit.up();
        Check.click(kit, 3, 7);
        Check.same("bound to none", kit.widget(0, 15), 1);
        kit.wheel(5);
        Check.same("all are seen", kit.widget(0, 14), 0);
        Check.form(kit, "list");
        kit.focus(0);
        int[] keys = {9, 10, 3, 4};
        for (int k : keys) {
            kit.key(k, false);
        }
        Check.same("without rows", kit.widget(0, 15), -1);
        Check.style(kit, "list{pad:9;}");
        Check.form(kit, "list(rows=9)");
        kit.focus(0);
        kit.key(4, false);
        Check.same("one at least is seen", kit.widget(0, 14), 8);
        kit.point(3, 3);
        kit.wheel(-1);
        kit.wheel(5);
        Check.same("also by the wheel", kit.widget(0, 14), 8);
        kit.down();
        Check.same("no row in the frame", kit.widget(0, 15), 8);
    }

    private static void trees() {
        ScreenKit kit = new ScreenKit(40, 20);
        Check.form(kit, "tree(bind=1)\"ab(cd(e)f)g\"");
        // nodes a0 b1 c2 d3 e4 f5 g6
        Check.same("closed", Check.shown(kit, 0), "0 1 6");
        Check.same("no row", kit.shown(0, 3) + kit.shown(0, -1) + kit.shown(1, 0), -3);
        kit.focus(0);
        kit.put(1, 4);
        Check.same("selected, not shown", kit.widget(0, 15), 4);
        kit.key(2, false);
        kit.key(1, false);
        Check.same("nothing of one that isn't shown", kit.cell(1), 4);
        kit.key(10, false);
        Check.same("as from none", kit.cell(1), 0);
        kit.key(10, false);
        Check.same("down", kit.cell(1), 1);
        kit.key(1, false);
        Check.same("closed, without a node around", kit.cell(1), 1);
        kit.key(2, false);
        Check.same("opened", Check.shown(kit, 0), "0 1 2 3 5 6");
        kit.key(2, false);
        Check.same("opened already", Check.shown(kit, 0), "0 1 2 3 5 6");
        kit.key(10, false);
        kit.key(2, false);
        Check.same("a leaf", Check.shown(kit, 0) + "/" + kit.cell(1), "0 1 2 3 5 6/2");
        kit.key(10, false);
        kit.key(2, false);
        Check.same("opened in it", Check.shown(kit, 0) + "/" + kit.widget(0, 14), "0 1 2 3 4 5 6/1");
        kit.key(4, false);
        Check.same("the last", kit.cell(1) + "/" + kit.widget(0, 14), "6/4");
        kit.key(9, false);
        kit.key(1, false);
        Check.same("the node around", kit.cell(1) + "/" + kit.widget(0, 14), "1/1");
        kit.key(1, false);
        Check.same("closed again", Check.shown(kit, 0) + "/" + kit.widget(0, 14), "0 1 6/1");
        kit.key(2, false);
        Check.same("what is in it stays opened", Check.shown(kit, 0), "0 1 2 3 4 5 6");
        kit.key(3, false);
        Check.same("the first", kit.cell(1) + "/" + kit.widget(0, 14), "0/0");
        kit.point(5, 5);
        kit.wheel(100);
        Check.same("the wheel", kit.widget(0, 14), 4);
        kit.put(1, 1);
        Check.same("put leaves the top", kit.widget(0, 14), 4);
        kit.point(1, 1);
        kit.down();
        Check.same("row 4 is e, a leaf", kit.cell(1), 4);
        kit.up();
        kit.wheel(-3);
        // rows: b1 at 0, c2 at 6, d3 at 12
        kit.point(4, 13);
        kit.down();
        Check.same("within 6 columns behind its indent", Check.shown(kit, 0) + "/" + kit.cell(1), "0 1 2 3 5 6/4");
        kit.up();
        kit.point(9, 13);
        kit.down();
        Check.same("to the last of them", Check.shown(kit, 0), "0 1 2 3 4 5 6");
        kit.up();
        Check.click(kit, 10, 13);
        Check.same("behind them", kit.cell(1), 3);
        Check.click(kit, 3, 13);
        Check.same("ahead of them", Check.shown(kit, 0) + "/" + kit.cell(1), "0 1 2 3 4 5 6/3");
        Check.click(kit, 4, 7);
        Check.same("of a leaf", kit.cell(1), 2);
        kit.wheel(100);
        kit.put(1, 6);
        Check.click(kit, 4, 1);
        Check.same("leaf e again", kit.cell(1), 4);
        kit.wheel(-3);
        Check.click(kit, 0, 1);
        Check.same("all in it closed", Check.shown(kit, 0) + "/" + kit.widget(0, 14), "0 1 6/1");
    }

    private static void treeTexts() {
        String[][] due = {{"", "0"}, {"()", "0"}, {"(a)b", "2"}, {"a((b)c)d", "4"}, {"a b-c", "3"}, {"a(b)(c", "3"}, {"A1", "2"}};
        for (String[] d : due) {
            ScreenKit kit = new ScreenKit(40, 20);
            Check.form(kit, "tree(bind=1)\"" + d[0] + "\"");
            int n = 0;
            kit.put(1, 0);
            while (kit.widget(0, 15) >= 0) {
                n++;
                kit.put(1, n);
            }
            Check.same("nodes of " + d[0], n, Integer.parseInt(d[1]));
        }
        ScreenKit kit = new ScreenKit(40, 40);
        Check.form(kit, "tree\"a(b)(c)d((e)f)g)h\"");
        Check.same("closed", Check.shown(kit, 0), "0 3 5 6 7");
        kit.focus(0);
        kit.key(3, false);
        kit.key(2, false);
        Check.same("two rows of children", Check.shown(kit, 0), "0 1 2 3 5 6 7");
        Check.form(kit, "tree\"ab(c)\"");
        kit.focus(0);
        kit.key(4, false);
        kit.key(2, false);
        kit.key(10, false);
        kit.key(1, false);
        kit.key(1, false);
        Check.same("the top is held", Check.shown(kit, 0) + "/" + kit.widget(0, 15), "0 1/1");
        Check.form(kit, "tree\"a(b)Z(9)\"");
        kit.focus(0);
        kit.key(10, false);
        kit.key(2, false);
        kit.key(10, false);
        kit.key(1, false);
        Check.same("node 0 around", Check.shown(kit, 0) + "/" + kit.widget(0, 15), "0 1 2/0");
    }

    private static ScreenKit table(String data, int height) {
        ScreenKit kit = new ScreenKit(40, height);
        Check.tell(kit, data).data();
        Check.form(kit, "table(bind=1)");
        return kit;
    }

    private static void tables() {
        ScreenKit kit = table("name,n\nb,10\na,9\nc,9\nB,x,q\n10\n,010\n", 40);
        Check.same("as they are told", Check.shown(kit, 0), "0 1 2 3 4 5");
        Check.same("least", Check.least(kit, 0), "40 30");
        Check.click(kit, 5, 3);
        Check.same("up by names", Check.shown(kit, 0), "4 5 3 1 0 2");
        Check.click(kit, 19, 3);
        Check.same("down", Check.shown(kit, 0), "2 0 1 3 5 4");
        Check.click(kit, 5, 0);
        Check.same("not at all", Check.shown(kit, 0), "0 1 2 3 4 5");
        Check.click(kit, 20, 5);
        Check.same("up by numbers", Check.shown(kit, 0), "1 2 0 5 4 3");
        Check.click(kit, 39, 5);
        Check.same("down by numbers, equal ones in their order", Check.shown(kit, 0), "3 4 0 5 1 2");
        Check.click(kit, 3, 5);
        Check.same("another column", Check.shown(kit, 0), "4 5 3 1 0 2");
        Check.click(kit, 3, 6);
        Check.same("a row", kit.cell(1), 4);
        Check.click(kit, 3, 17);
        Check.same("by its place", kit.cell(1), 5);
        kit.focus(0);
        kit.key(10, false);
        Check.same("down as they stand", kit.cell(1), 3);
        kit.key(4, false);
        Check.same("the last", kit.cell(1) + "/" + kit.widget(0, 14), "2/1");
        Check.same("a filter", Check.tell(kit, "9").filter(0), 2);
        Check.same("those with it", Check.shown(kit, 0), "1 2");
        Check.same("the top is held", kit.widget(0, 14), 1);
        kit.key(3, false);
        Check.same("the first", kit.cell(1) + "/" + kit.widget(0, 14), "1/0");
        Check.same("a part that isn't seen counts", Check.tell(kit, "\nq").filter(0), 1);
        Check.same("one that doesn't stand", kit.widget(0, 15), 1);
        kit.key(9, false);
        Check.same("as none", kit.cell(1), 3);
        Check.same("one behind the other", Check.tell(kit, "01").filter(0), 1);
        Check.same("not by bits", Check.tell(kit, "00").filter(0), 0);
        Check.same("without rows", Check.shown(kit, 0) + kit.widget(0, 14), "0");
        kit.key(10, false);
        Check.same("no key", kit.cell(1), 3);
        Check.same("the first 8 signs", Check.tell(kit, "123456789").filter(0), 0);
        Check.same("empty", kit.filter(0), 6);
        Check.same("sorted yet", Check.shown(kit, 0), "4 5 3 1 0 2");
        Check.same("no table", kit.filter(1) + kit.filter(-1), -4);
        kit.put(1, 6);
        Check.same("no such row", kit.widget(0, 15), -1);
        kit.put(1, 5);
        Check.same("the last row", kit.widget(0, 15), 5);
    }

    private static void tableData() {
        ScreenKit kit = table("a,b\nx,2\ny,1\n", 40);
        Check.click(kit, 30, 2);
        Check.same("sorted", Check.shown(kit, 0), "1 0");
        Check.tell(kit, "a\nx,2\ny,1").data();
        Check.same("by a column that isn't there", Check.shown(kit, 0), "0 1");
        Check.tell(kit, "a,b\nx,12345678\ny,1234567\nz,9\nw,").data();
        Check.same("there again, and eight digits are signs", Check.shown(kit, 0), "2 1 3 0");
        Check.tell(kit, "a\n12345678x,").data();
        Check.same("a fault", Check.shown(kit, 0), "2 1 3 0");
        kit.data();
        Check.same("no lines", Check.shown(kit, 0) + kit.count(11), "0");
        Check.same("least", Check.least(kit, 0), "40 6");
        Check.click(kit, 3, 3);
        Check.click(kit, 3, 9);
        Check.same("nothing to press", kit.cell(1), 0);
        Check.tell(kit, "a,b,c\n1\n2\n3\n4\n5\n6").data();
        Check.same("at most four rows", Check.least(kit, 0), "40 30");
        Check.tell(kit, "5").filter(0);
        Check.same("without a filter", Check.least(kit, 0), "40 30");
        kit.filter(0);
        kit.point(3, 20);
        kit.wheel(5);
        Check.same("five of six are seen", kit.widget(0, 14), 1);
        kit = new ScreenKit(40, 20);
        Check.tell(kit, "a,b,c\n1\n2\n3\n4\n5\n6").data();
        Check.form(kit, "stack{table(bind=2) table}");
        Check.style(kit, "table{pad:4;}");
        Check.same("one above the other", Check.place(kit, 2), "0 0 40 20");
        kit.focus(1);
        kit.key(4, false);
        Check.same("one at least is seen", kit.cell(2) + "/" + kit.widget(1, 14), "5/5");
        kit.key(9, false);
        Check.same("up", kit.widget(1, 14), 4);
        // columns of 10, 10, 12 from 4 on
        Check.click(kit, 14, 5);
        Check.click(kit, 14, 5);
        Check.same("sorted by equal parts", Check.shown(kit, 2), "0 1 2 3 4 5");
        Check.click(kit, 13, 5);
        Check.click(kit, 13, 5);
        Check.same("down by the first column", Check.shown(kit, 2), "5 4 3 2 1 0");
        Check.same("each has its own", Check.shown(kit, 1), "0 1 2 3 4 5");
        Check.click(kit, 3, 5);
        Check.same("not in the frame", Check.shown(kit, 2), "5 4 3 2 1 0");
        Check.style(kit, "table{pad:4;dir:1;}");
        Check.click(kit, 26, 5);
        Check.same("turned: the first column is at the right", Check.shown(kit, 2), "0 1 2 3 4 5");
        Check.click(kit, 11, 13);
        Check.same("bound to none", kit.widget(2, 15), 0);
    }

    /** The top is held to the last row that is shown, and no further. */
    private static void tops() {
        ScreenKit kit = new ScreenKit(40, 18);
        Check.tell(kit, "h\n0\n00\n01\n1\n10\n1\"\n2\n3").data();
        Check.form(kit, "stack{table tree\"a(bcdef)\"}");
        Check.style(kit, "tree{hide:1;}");
        kit.point(3, 8);
        kit.wheel(100);
        Check.same("two of eight are seen", kit.widget(1, 14), 6);
        Check.same("four with it", Check.tell(kit, "1").filter(1), 4);
        Check.same("to the last", kit.widget(1, 14), 3);
        Check.same("one with it", Check.tell(kit, "1\"").filter(1), 1);
        Check.same("to the only one", kit.widget(1, 14) * 10 + kit.shown(1, 0), 5);
        kit.filter(1);
        Check.click(kit, 3, 3);
        Check.same("by values, then by signs", Check.shown(kit, 1), "0 1 2 3 6 7 4 5");
        kit.wheel(100);
        kit.data();
        Check.same("without rows", kit.widget(1, 14), 0);
        Check.style(kit, "table{hide:1;}");
        kit.point(3, 1);
        kit.down();
        kit.up();
        kit.wheel(2);
        Check.same("opened", Check.shown(kit, 2) + "/" + kit.widget(2, 14), "0 1 2 3 4 5/2");
        kit.put(1, 1);
        kit.focus(2);
        kit.key(3, false);
        kit.wheel(3);
        kit.key(1, false);
        Check.same("the selected one is seen", Check.shown(kit, 2) + "/" + kit.widget(2, 14), "0/0");
    }

    /** Beside the content there is no row. */
    private static void frames() {
        ScreenKit kit = new ScreenKit(40, 40);
        Check.style(kit, "*{pad:4;}");
        String[] forms = {"list(rows=9)", "tree\"abcdefgh\""};
        for (String form : forms) {
            Check.form(kit, form);
            int[][] none = {{3, 10}, {36, 10}, {10, 3}, {10, 36}};
            for (int[] n : none) {
                kit.point(n[0], n[1]);
                Check.same("pressed", kit.down(), 0);
                Check.same("no row at " + n[0] + ", " + n[1], kit.widget(0, 15), -1);
                kit.up();
            }
            Check.click(kit, 4, 4);
            Check.same("the first", kit.widget(0, 15), 0);
            Check.click(kit, 35, 35);
            Check.same("the last", kit.widget(0, 15), 5);
        }
    }

    public static void main(String[] args) {
        lists();
        trees();
        treeTexts();
        tables();
        tableData();
        tops();
        frames();
        Check.end("RowsTest");
    }
}
