/** Points 9 and 10 of the document and promises 15, 17 to 24: pointer, button, wheel, keys, FOCUS, moves; edge by edge. */
public final class EdgeEventTest {
    private static final String[] KINDS = {"row", "col", "grid", "stack", "flow", "scroll", "label", "button", "check",
        "radio", "field", "slider", "list", "gap", "tabs", "dialog", "tree", "table", "picture"};

    private static boolean canBePressed(int kind) {
        return (kind >= 7 && kind <= 12) || kind == 14 || kind == 16 || kind == 17;
    }

    /** point(): the last one, in their order, that has this pixel visible and isn't hidden; NONE beside the screen. */
    private static void points() {
        ScreenKit kit = Check.made(20, 20, "stack{gap.a gap.b gap.c}", "stack{align:0;}.a{wide:9;tall:9;}.b{wide:6;tall:12;}"
            + ".c{wide:20;tall:3;}");
        int[][] due = {{0, 0, 3}, {0, 2, 3}, {0, 3, 2}, {5, 3, 2}, {6, 3, 1}, {8, 8, 1}, {9, 8, 0}, {8, 9, 0}, {5, 11, 2}, {5, 12, 0},
            {19, 0, 3}, {19, 3, 0}, {19, 19, 0}, {20, 0, -1}, {0, 20, -1}, {-1, 0, -1}, {0, -1, -1}, {Integer.MAX_VALUE, 0, -1},
            {0, Integer.MIN_VALUE, -1}};
        for (int[] d : due) {
            Check.same("over " + d[0] + ", " + d[1], kit.point(d[0], d[1]), d[2]);
            Check.same("counted", kit.count(7), d[2]);
        }
        kit.point(0, 0);
        Check.style(kit, "stack{align:2;}.a{wide:9;tall:9;}.c{hide:1;}");
        Check.same("it stays so", kit.count(7), 3);
        Check.same("hidden", kit.widget(3, 10), 1);
        Check.same("till the next point()", kit.point(0, 0), 0);
        Check.same("places of then", kit.point(11, 11), 1);
        Check.same("without a form", new ScreenKit(20, 20).point(3, 3), -1);
        kit = Check.made(20, 20, "row{gap gap}", "gap{wide:5;}gap:hover{wide:0;}");
        Check.same("by places ahead of it", kit.point(4, 3), 1);
        Check.same("that one has no place by then", kit.widget(1, 6), 0);
        Check.same("another is there", kit.point(4, 3), 2);
        Check.form(kit, "row{gap gap}");
        Check.same("till form()", kit.count(7), -1);
        kit.point(4, 3);
        Check.tell(kit, "gap").insert(0, 0);
        Check.same("an insert keeps it", kit.count(7), 2);
        kit.remove(1);
        Check.same("a remove, too", kit.count(7), 1);
        kit.remove(1);
        Check.same("but of itself", kit.count(7), -1);
    }

    /** down(): of the kinds that can be pressed the first one going outwards, not OFF; it gets FOCUS. */
    private static void presses() {
        for (int k = 0; k < KINDS.length; k++) {
            ScreenKit kit = Check.made(40, 40, "tabs{" + KINDS[k] + "}", "");
            int due = canBePressed(k) ? 1 : 0;
            kit.put(0, 1);
            kit.point(20, 20);
            Check.same("down on " + KINDS[k], kit.down(), due);
            Check.same("pressed, focused", kit.count(6) * 10 + kit.count(5), due * 11);
            Check.same("clicked", kit.up(), due);
            Check.same("focus of " + KINDS[k], kit.focus(1), due == 1 ? 1 : -5);
            kit = Check.made(40, 40, "row{" + KINDS[k] + "}", "row *{grow:1;}");
            kit.key(13, false);
            Check.same("key 13 to " + KINDS[k], kit.count(5), due == 1 ? 1 : -1);
            kit.point(20, 20);
            Check.same("down on " + KINDS[k], kit.down(), due == 1 ? 1 : -1);
            Check.same("focus", kit.count(5), due == 1 ? 1 : -1);
            Check.same("the button is down", kit.down(), -5);
            Check.same("clicked", kit.up(), due == 1 ? 1 : -1);
            Check.same("it is up", kit.up(), -5);
            kit.able(1, true);
            Check.same("down on an off " + KINDS[k], kit.down(), -1);
            Check.same("none has it", kit.count(5), -1);
        }
        ScreenKit kit = Check.made(40, 40, "tabs{tabs{tabs{gap}}}", "");
        kit.point(20, 30);
        for (int w = 2; w >= 0; w--) {
            Check.same("outwards", kit.down(), w);
            kit.up();
            kit.able(w, true);
            Check.same("off", kit.widget(w, 11) & 16, 16);
            if (w > 0) {
                Check.same("one around isn't", kit.widget(w - 1, 11) & 16, 0);
            }
        }
        Check.same("all are off", kit.down(), -1);
        Check.same("down all the same", kit.down(), -5);
        kit = new ScreenKit(20, 20);
        Check.same("without a form", kit.down(), -1);
        Check.same("down all the same", kit.down(), -5);
        Check.same("up", kit.up(), -1);
        Check.same("up again", kit.up(), -5);
    }

    /** up(): if the pointer is over the pressed one, or one in it. */
    private static void clicks() {
        ScreenKit kit = Check.made(20, 20, "row{button(do=1+1) tabs{button(do=2+1)}}", "button,tabs{wide:10;}");
        kit.point(3, 3);
        kit.down();
        kit.point(10, 3);
        Check.same("over another", kit.up(), -1);
        Check.same("nothing done", kit.cell(1), 0);
        kit.point(9, 3);
        kit.down();
        kit.point(-1, 3);
        kit.point(0, 3);
        Check.same("away and back", kit.up() * 10 + kit.cell(1), 11);
        kit.point(12, 3);
        kit.down();
        kit.point(12, 12);
        Check.same("over one in it", kit.up(), 2);
        Check.same("that one isn't clicked", kit.cell(2), 0);
        kit.down();
        kit.point(12, 3);
        Check.same("over one around it", kit.up(), -1);
        Check.same("pressed no more", kit.count(6), -1);
        kit.point(3, 3);
        kit.down();
        kit.able(1, true);
        kit.able(1, false);
        Check.same("it was lost", kit.up(), -1);
        kit.down();
        kit.remove(1);
        Check.same("it went", kit.up(), -1);
        Check.same("nothing done", kit.cell(1), 1);
    }

    private static void doing(String what, int was, int due) {
        ScreenKit kit = Check.made(20, 20, "button(do=" + what + ",bind=3)", "");
        kit.put(1, was);
        Check.click(kit, 3, 3);
        Check.same(what + " of " + was, kit.cell(1), due);
        kit.put(1, was);
        kit.focus(0);
        kit.key(14, false);
        Check.same(what + " of " + was + " by a key", kit.cell(1), due);
        Check.same("no other cell", kit.cell(3), 0);
    }

    /** A button does what do says (ints go round); a check 0 or 1; a radio its pick; bound to none nothing. */
    private static void doings() {
        doing("1+0", 7, 7);
        doing("1+1", 7, 8);
        doing("1+999", -1, 998);
        doing("1-1", 0, -1);
        doing("1-999", 1, -998);
        doing("1=0", 7, 0);
        doing("1=999", 7, 999);
        doing("1+1", Integer.MAX_VALUE, Integer.MIN_VALUE);
        doing("1+999", Integer.MAX_VALUE, Integer.MIN_VALUE + 998);
        doing("1+1", Integer.MAX_VALUE - 1, Integer.MAX_VALUE);
        doing("1-1", Integer.MIN_VALUE, Integer.MAX_VALUE);
        doing("1-1", Integer.MIN_VALUE + 1, Integer.MIN_VALUE);
        doing("1=5", Integer.MIN_VALUE, 5);
        ScreenKit kit = Check.made(20, 20, "col{button(do=0-1) button(do=15+1) button(bind=1)}", "button{tall:6;}");
        Check.click(kit, 3, 3);
        Check.click(kit, 3, 9);
        Check.click(kit, 3, 15);
        Check.same("the first, the last cell, none", kit.cell(0) * 100 + kit.cell(15) * 10 + kit.cell(1), -90);
        int[][] checks = {{0, 1}, {1, 0}, {2, 0}, {-1, 0}, {Integer.MIN_VALUE, 0}};
        for (int[] c : checks) {
            kit = Check.made(20, 20, "check(bind=0)", "");
            kit.put(0, c[0]);
            Check.click(kit, 3, 3);
            Check.same("a check of " + c[0], kit.cell(0), c[1]);
            kit = Check.made(20, 20, "radio(bind=0,pick=7)", "");
            kit.put(0, c[0]);
            Check.click(kit, 3, 3);
            Check.same("a radio of " + c[0], kit.cell(0), 7);
        }
        kit = Check.made(20, 20, "col{check radio(pick=7)}", "");
        for (int w = 1; w <= 2; w++) {
            kit.focus(w);
            Check.same("bound to none", kit.key(14, false), w);
        }
        for (int c = 0; c < 16; c++) {
            Check.same("no cell", kit.cell(c), 0);
        }
        int[] others = {10, 11, 12, 14, 16, 17};
        for (int k : others) {
            kit = Check.made(40, 40, "row{" + KINDS[k] + "(bind=0,least=3)}", "");
            kit.put(0, 50);
            kit.focus(1);
            Check.same("key 14 of " + KINDS[k], kit.key(14, false) * 100 + kit.cell(0), 150);
        }
    }

    private static void slider(int wide, int dir, int x, int least, int most, int due) {
        ScreenKit kit = Check.made(16 + wide, 20, "slider(bind=1,least=" + least + ",most=" + most + ")", "slider{pad:8;dir:" + dir
            + ";}");
        kit.put(1, -7);
        kit.point(8 + x, 10);
        kit.down();
        Check.same("slider " + wide + " wide, dir " + dir + ", at " + x, kit.cell(1), due);
        kit.put(1, -7);
        kit.point(8 + x, 0);
        Check.same("and by point()", kit.cell(1), due);
    }

    /** A slider is set: least + (most - least) * d / (width - 3), d from 1 behind the content's beginning; below 4: least. */
    private static void sliders() {
        for (int wide = 0; wide <= 3; wide++) {
            slider(wide, 0, 2, 5, 25, 5);
            slider(wide, 1, 2, 5, 25, 5);
        }
        int[][] four = {{-8, 5}, {0, 5}, {1, 5}, {2, 25}, {3, 25}, {11, 25}};
        for (int[] f : four) {
            slider(4, 0, f[0], 5, 25, f[1]);
            slider(4, 1, 3 - f[0], 5, 25, f[1]);
        }
        int[][] thirteen = {{0, 0}, {1, 0}, {2, 0}, {3, 1}, {4, 1}, {5, 2}, {10, 4}, {11, 5}, {12, 5}, {20, 5}};
        for (int[] t : thirteen) {
            slider(13, 0, t[0], 0, 5, t[1]);
            slider(13, 1, 12 - t[0], 0, 5, t[1]);
        }
        slider(13, 0, 5, 7, 7, 7);
        slider(13, 0, 11, 9, 3, 9);
        slider(13, 0, 1, 9, 3, 9);
        slider(13, 0, 10, 0, 999, 899);
        slider(13, 0, 11, 0, 999, 999);
        ScreenKit kit = Check.made(40, 20, "slider(bind=1)", "");
        kit.point(20, 3);
        Check.same("not without being pressed", kit.cell(1), 0);
        kit.down();
        Check.same("down", kit.cell(1), 99 * 19 / 37);
        kit.point(Integer.MIN_VALUE, 3);
        Check.same("far to the left", kit.cell(1), 0);
        kit.point(Integer.MAX_VALUE, 3);
        Check.same("far to the right", kit.cell(1), 99);
        kit.point(1, 3);
        kit.up();
        kit.point(20, 3);
        Check.same("not behind up()", kit.cell(1), 0);
        kit = Check.made(40, 20, "slider(bind=0)", "");
        Check.click(kit, 38, 3);
        Check.same("cell 0", kit.cell(0), 99);
    }

    /** Keys 1 .. 15 and 32 .. 127. */
    private static void keys() {
        ScreenKit kit = Check.made(40, 20, "button", "");
        for (int k = -3; k <= 131; k++) {
            boolean there = (k >= 1 && k <= 15) || (k >= 32 && k <= 127);
            kit.focus(0);
            Check.same("key " + k, kit.key(k, k % 2 == 0), there ? 0 : -4);
            kit.able(0, true);
            Check.same("key without focus " + k, kit.key(k, k % 2 == 0), there ? -1 : -4);
            kit.able(0, false);
        }
        int[][] slider = {{1, 0, 4}, {2, 0, 6}, {1, 1, 6}, {2, 1, 4}};
        for (int[] s : slider) {
            kit = Check.made(40, 20, "slider(bind=1)", "slider{dir:" + s[1] + ";}");
            kit.put(1, 5);
            kit.focus(0);
            kit.key(s[0], false);
            Check.same("key " + s[0] + " in dir " + s[1], kit.cell(1), s[2]);
            for (int k = 3; k <= 127; k++) {
                kit.key(k, false);
                kit.focus(0);
                Check.same("no other key, " + k, kit.cell(1), s[2]);
            }
        }
    }

    /** Of a button, check, radio key 14 alone is a click. */
    private static void noKeys() {
        String[] forms = {"button(bind=1,do=1+1)", "check(bind=1)", "radio(bind=1,pick=5)"};
        for (String form : forms) {
            ScreenKit kit = Check.made(40, 20, form, "");
            kit.put(1, 3);
            for (int k = 1; k <= 127; k++) {
                kit.focus(0);
                if (k != 14) {
                    kit.key(k, false);
                    Check.same("key " + k + " of " + form, kit.cell(1), 3);
                }
            }
            kit.key(14, false);
            Check.same("key 14 of " + form, kit.cell(1) == 3 ? 1 : 0, 0);
        }
    }

    /** Key 13: to the next one that isn't OFF or hidden; behind the last the first; shift: back. */
    private static void rounds() {
        ScreenKit kit = Check.made(40, 60, "col{label button gap check field row{button} list}", "list{tall:1;}");
        int[] order = {2, 4, 5, 7, 8};
        for (int n = 0; n < 11; n++) {
            Check.same("had", kit.key(13, false), n == 0 ? -1 : order[(n - 1) % 5]);
            Check.same("round", kit.count(5), order[n % 5]);
        }
        for (int n = 9; n >= 0; n--) {
            kit.key(13, true);
            Check.same("back", kit.count(5), order[n % 5]);
        }
        kit.able(2, true);
        kit.able(8, true);
        kit.able(6, true);
        int[] rest = {4, 5, 4, 5};
        for (int w : rest) {
            kit.key(13, false);
            Check.same("not the off ones", kit.count(5), w);
        }
        Check.style(kit, "field{hide:1;}");
        kit.key(13, false);
        kit.key(13, false);
        Check.same("one alone", kit.count(5), 4);
        kit.key(13, true);
        Check.same("and back", kit.count(5), 4);
        kit.able(0, true);
        Check.same("none", kit.key(13, false) + kit.count(5), -2);
        kit.able(0, false);
        kit.able(2, false);
        kit.key(13, true);
        Check.same("from none back the last", kit.count(5), 4);
        kit.able(4, true);
        kit.able(4, false);
        kit.key(13, false);
        Check.same("from none the first", kit.count(5), 2);
        kit = new ScreenKit(20, 20);
        Check.same("without a form", kit.key(13, false) + kit.key(13, true) + kit.count(5), -3);
        kit = Check.made(20, 20, "tabs{button}", "");
        kit.key(13, true);
        Check.same("the last is the one in it", kit.count(5), 1);
        kit.key(13, false);
        Check.same("widget 0", kit.count(5), 0);
        kit.key(13, true);
        Check.same("ahead of the first the last", kit.count(5), 1);
    }

    /** One that comes to be OFF, or hidden, while it is pressed or has FOCUS: is so no more. */
    private static void losses() {
        for (int n = 0; n < 6; n++) {
            ScreenKit kit = Check.made(40, 40, "tabs(bind=1){row{button.a button.b} gap}", "button{wide:10;}");
            kit.point(15, 20);
            kit.down();
            kit.focus(2);
            Check.same("pressed and focused", kit.count(6) * 10 + kit.count(5), 32);
            switch (n) {
                case 0: kit.able(3, true); break;
                case 1: kit.able(2, true); break;
                case 2: kit.able(1, true); break;
                case 3: Check.style(kit, ".b{hide:1;}"); break;
                case 4: Check.style(kit, "row{hide:1;}"); break;
                default: kit.put(1, 1); break;
            }
            int[] pressed = {-1, 3, -1, -1, -1, -1};
            int[] focused = {2, -1, -1, 2, -1, -1};
            Check.same("pressed behind " + n, kit.count(6), pressed[n]);
            Check.same("focused behind " + n, kit.count(5), focused[n]);
            Check.same("the button is down", kit.down(), -5);
            kit.able(3, false);
            kit.able(2, false);
            kit.able(1, false);
            Check.style(kit, "button{wide:10;}");
            kit.put(1, 0);
            Check.same("it doesn't come back", kit.count(6) * 10 + kit.count(5), pressed[n] * 10 + focused[n]);
        }
        ScreenKit kit = Check.made(40, 40, "row{button button}", "button{wide:10;}button:press{hide:1;}");
        kit.point(3, 3);
        Check.same("hidden by being pressed: down() answers it", kit.down(), 1);
        Check.same("pressed no more behind the call", kit.count(6) + kit.count(5), -2);
        Check.same("shown again", kit.widget(1, 10), 0);
        kit.up();
        Check.style(kit, "button{wide:10;}button:focus{hide:1;}");
        Check.same("hidden by having focus", kit.focus(1), 1);
        Check.same("it has none", kit.count(5), -1);
        Check.same("shown again", kit.widget(1, 10), 0);
    }

    /** wheel(): of the widget where the pointer is, going outwards, the first list, scroll, tree or table; -1000 .. 1000. */
    private static void wheels() {
        for (int k = 0; k < KINDS.length; k++) {
            boolean turns = k == 5 || k == 12 || k == 16 || k == 17;
            ScreenKit kit = Check.made(40, 40, "scroll{" + KINDS[k] + "}", "");
            kit.point(20, 20);
            Check.same("wheel over " + KINDS[k], kit.wheel(1), kit.count(7) == 0 ? 0 : turns ? 1 : 0);
            kit = Check.made(40, 40, "row{" + KINDS[k] + "}", "row *{grow:1;}");
            kit.point(20, 20);
            Check.same("wheel over " + KINDS[k] + " in a row", kit.wheel(-1), turns ? 1 : -1);
            kit.able(0, true);
            Check.same("off", kit.wheel(0), turns ? 1 : -1);
        }
        ScreenKit kit = new ScreenKit(20, 20);
        int[][] due = {{-1000, -1}, {1000, -1}, {0, -1}, {-1001, -4}, {1001, -4}};
        for (int[] d : due) {
            Check.same("wheel " + d[0], kit.wheel(d[0]), d[1]);
        }
    }

    /** focus(): of a kind that can have it, not OFF or hidden. */
    private static void focusing() {
        ScreenKit kit = Check.made(40, 40, "col{button.a row{button.b} dialog(bind=1){button}}", ".a{tall:6;}");
        Check.same("it has it", kit.focus(1) * 10 + kit.count(5), 11);
        Check.same("another", kit.focus(3) * 10 + kit.count(5), 13);
        Check.same("a closed dialog's", kit.focus(5) * 10 + kit.count(5), -47);
        kit.able(2, true);
        Check.same("off around", kit.focus(3) * 10 + kit.count(5), -51);
        kit.able(2, false);
        Check.style(kit, ".a{hide:1;}");
        Check.same("hidden", kit.focus(1), -5);
        Check.same("the other", kit.focus(3), 1);
        kit.put(1, 1);
        Check.same("beside the top dialog", kit.focus(3), -5);
        Check.same("in it", kit.focus(5) * 10 + kit.count(5), 15);
        Check.same("no such", kit.focus(6) + kit.focus(-1) + kit.focus(Integer.MAX_VALUE), -6);
    }

    private static void able() {
        ScreenKit kit = Check.made(40, 40, "row(off=1){gap gap(off=1)}", "");
        Check.same("by its attribute", kit.able(0, true), 1);
        Check.same("its own", kit.able(1, false), 0);
        Check.same("off around yet", kit.widget(1, 11), 16);
        Check.same("was", kit.able(0, false), 1);
        Check.same("on", kit.widget(1, 11), 0);
        Check.same("its own yet", kit.widget(2, 11), 16);
        Check.same("was", kit.able(2, false), 1);
        Check.same("was not", kit.able(2, true), 0);
        Check.same("was again", kit.able(2, true), 1);
        Check.same("no such", kit.able(3, true) + kit.able(-1, true), -4);
    }

    /** MOVES: line, pad, gap, wide, tall, grow; to is held to its range; 1 .. 1000 ticks; at tick k of n. */
    private static void moves() {
        int[] most = {3, 9, 9, 96, 64, 9};
        for (int p = -1; p <= 13; p++) {
            boolean there = p >= 3 && p <= 8;
            ScreenKit kit = Check.made(96, 64, "gap", "");
            Check.same("property " + p, kit.move(0, p, 1, 1), there ? 1 : -4);
            if (there) {
                int[][] tos = {{-1, 0}, {Integer.MIN_VALUE, 0}, {0, 0}, {most[p - 3] - 1, most[p - 3] - 1}, {most[p - 3], most[p - 3]},
                    {most[p - 3] + 1, most[p - 3]}, {Integer.MAX_VALUE, most[p - 3]}, {0, 0}};
                for (int[] t : tos) {
                    Check.same("to " + t[0], kit.move(0, p, t[0], 1), 1);
                    Check.same("ends", kit.tick(1), 1);
                    Check.same("is held", kit.styled(0, p), t[1]);
                    Check.same("by no rule", kit.ruleOf(0, p), -1);
                }
            }
        }
        int[][] ticks = {{0, -4}, {1, 1}, {1000, 1}, {1001, -4}, {-1, -4}, {Integer.MIN_VALUE, -4}};
        for (int[] t : ticks) {
            ScreenKit kit = Check.made(96, 64, "gap", "");
            Check.same("in " + t[0], kit.move(0, 4, 9, t[0]), t[1]);
            Check.same("under way", kit.count(4), t[1] == 1 ? 1 : 0);
            Check.same("tick " + t[0], kit.tick(t[0]), t[1]);
            Check.same("ticks", kit.count(10), t[1] == 1 ? t[0] : 0);
        }
    }

    /** from + (to - from) * k / n, whole part towards 0; it stays to behind the last one. */
    private static void moving() {
        ScreenKit kit = Check.made(96, 64, "row{gap gap}", "gap{pad:9;wide:10;}");
        kit.move(1, 4, 0, 4);
        kit.move(2, 4, 2, 1000);
        int[] due = {9, 7, 5, 3, 0, 0};
        for (int k = 0; k < 6; k++) {
            Check.same("down, tick " + k, kit.styled(1, 4), due[k]);
            Check.same("ended", kit.tick(1), k == 3 ? 1 : 0);
        }
        Check.same("of a thousand", kit.styled(2, 4), 9);
        kit.tick(993);
        Check.same("nearly", kit.styled(2, 4) * 10 + kit.count(4), 31);
        Check.same("the last", kit.tick(1) * 100 + kit.styled(2, 4) * 10 + kit.count(4), 120);
        Check.same("no more", kit.tick(1000), 0);
        Check.style(kit, "gap{pad:5;}");
        Check.same("ahead of all rules", kit.styled(1, 4) * 10 + kit.styled(2, 4), 2);
        kit.move(1, 4, 9, 2);
        kit.tick(1);
        Check.same("from what it is", kit.styled(1, 4), 4);
        kit.move(1, 4, 0, 2);
        Check.same("the newer one alone", kit.count(4), 1);
        Check.same("from there", kit.styled(1, 4), 4);
        Check.same("beyond the end", kit.tick(1000) * 10 + kit.styled(1, 4), 10);
        kit.move(1, 3, 3, 1);
        kit.move(2, 3, 3, 2);
        kit.move(0, 3, 3, 3);
        Check.same("two of three end", kit.tick(2) * 10 + kit.count(4), 21);
        Check.same("widget 0's", kit.styled(0, 3), 2);
        Check.same("the third", kit.tick(1) * 10 + kit.styled(0, 3), 13);
        Check.form(kit, "row{gap gap}");
        Check.same("till form()", kit.styled(1, 4) * 10 + kit.styled(0, 3), 50);
    }

    /** At most 8 are under way; NONE when there are 8. */
    private static void eight() {
        ScreenKit kit = Check.made(96, 64, "row{gap gap}", "");
        for (int n = 0; n < 8; n++) {
            Check.same("under way", kit.count(4), n);
            Check.same("one more", kit.move(n / 4, 3 + n % 4, 1, 10 + n), 1);
        }
        Check.same("eight", kit.count(4), 8);
        Check.same("a ninth", kit.move(2, 8, 1, 1), -1);
        Check.same("eight yet", kit.count(4), 8);
        Check.same("ticks", kit.tick(9), 0);
        Check.same("a ninth yet", kit.move(2, 8, 1, 1), -1);
        Check.same("one ends", kit.tick(1), 1);
        Check.same("there is room for one", kit.move(2, 8, 1, 100) * 10 + kit.move(2, 7, 1, 100), 9);
        kit.remove(2);
        Check.same("one went", kit.count(4), 7);
        Check.same("room again", kit.move(1, 8, 1, 100), 1);
        Check.same("the others end", kit.tick(99) * 10 + kit.count(4), 71);
        Check.same("the last", kit.tick(1), 1);
    }

    public static void main(String[] args) {
        points();
        presses();
        clicks();
        doings();
        sliders();
        keys();
        noKeys();
        rounds();
        losses();
        wheels();
        focusing();
        able();
        moves();
        moving();
        eight();
        Check.end("EdgeEventTest");
    }
}
