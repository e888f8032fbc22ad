/** Promises 13 to 15, 17 to 22, 42: cells, the pointer, the button, keys and FOCUS. */
public final class EventTest {
    private static final String SIX = "col{button#a(do=1+5)\"a\" check#b(bind=2)\"b\" radio#c(bind=2,pick=7)\"c\" "
        + "slider#d(bind=3,least=10,most=30) label\"x\" list#f(rows=5,bind=4)}";

    private static ScreenKit six() {
        ScreenKit kit = new ScreenKit(60, 64);
        Check.style(kit, "list{grow:1;}");
        Check.form(kit, SIX);
        return kit;
    }

    private static void cells() {
        ScreenKit kit = six();
        Check.same("what it was", kit.put(15, -7), 0);
        Check.same("what it was then", kit.put(15, Integer.MAX_VALUE), -7);
        Check.same("what it is", kit.cell(15), Integer.MAX_VALUE);
        int thrown = 0;
        int[] wrong = {-1, 16};
        for (int c : wrong) {
            try {
                kit.cell(c);
            } catch (IllegalArgumentException e) {
                thrown++;
            }
            try {
                kit.put(c, 1);
            } catch (IllegalArgumentException e) {
                thrown++;
            }
        }
        Check.same("thrown", thrown, 4);
        Check.same("able", kit.able(1, true), 0);
        Check.same("was off", kit.able(1, true), 1);
        Check.same("was off too", kit.able(1, false), 1);
        Check.same("no widget", kit.able(7, true) + kit.able(-1, false), -4);
    }

    private static void clicks() {
        ScreenKit kit = six();
        Check.same("over", kit.point(5, 3), 1);
        Check.same("pressed", kit.down(), 1);
        Check.same("down already", kit.down(), -5);
        Check.same("counted", kit.count(5) * 100 + kit.count(6) * 10 + kit.count(7), 111);
        Check.same("not yet", kit.cell(1), 0);
        Check.same("clicked", kit.up(), 1);
        Check.same("not down", kit.up(), -5);
        Check.same("done", kit.cell(1), 5);
        Check.same("focus stays", kit.count(5) * 10 + kit.count(6), 9);
        kit.down();
        kit.point(5, 9);
        Check.same("not over it", kit.up(), -1);
        Check.same("not done", kit.cell(1), 5);
        Check.click(kit, 5, 9);
        Check.same("a check", kit.cell(2), 1);
        Check.same("checked", kit.widget(2, 11) & 8, 8);
        Check.click(kit, 5, 9);
        Check.same("a check back", kit.cell(2), 0);
        Check.click(kit, 5, 15);
        Check.same("a radio", kit.cell(2), 7);
        Check.click(kit, 5, 15);
        Check.same("a radio again", kit.cell(2), 7);
        Check.click(kit, 5, 9);
        Check.same("a check of 7", kit.cell(2), 0);
        Check.same("over a label", kit.point(5, 27), 5);
        Check.same("nothing to press", kit.down(), -1);
        Check.same("none has focus", kit.count(5), -1);
        Check.same("the button is down", kit.down(), -5);
        Check.same("nothing clicked", kit.up(), -1);
        Check.same("beside", kit.point(60, 3) + kit.point(3, 64) + kit.point(-1, 3) + kit.point(3, -1), -4);
        Check.same("none", kit.count(7), -1);
        kit.put(1, Integer.MAX_VALUE);
        Check.click(kit, 5, 3);
        Check.same("ints go round", kit.cell(1), Integer.MIN_VALUE + 4);
    }

    private static void doings() {
        ScreenKit kit = new ScreenKit(60, 64);
        Check.form(kit, "col{button(do=0-9) button(do=0=77) button check radio(pick=3)}");
        Check.style(kit, "*{tall:6;}");
        Check.click(kit, 1, 1);
        Check.same("less", kit.cell(0), -9);
        Check.click(kit, 1, 7);
        Check.same("is", kit.cell(0), 77);
        Check.click(kit, 1, 13);
        Check.same("nothing to do", kit.cell(0), 77);
        kit.point(1, 19);
        kit.down();
        Check.same("a check bound to none", kit.up(), 4);
        Check.same("isn't checked", kit.widget(4, 11), 5);
        kit.point(1, 25);
        kit.down();
        Check.same("a radio bound to none", kit.up(), 5);
        Check.same("isn't checked either", kit.widget(5, 11), 5);
    }

    private static void outwards() {
        ScreenKit kit = new ScreenKit(60, 64);
        Check.form(kit, "tabs{col{button(off=1) button}}");
        Check.style(kit, "button{tall:6;}");
        Check.same("over", kit.point(1, 9), 2);
        Check.same("an off one is passed", kit.down(), 0);
        Check.same("over one in it", kit.up(), 0);
        Check.same("hover around", kit.widget(0, 11) + kit.widget(1, 11) * 10, 15);
        Check.same("not pressed if the pointer is elsewhere", kit.point(1, 15), 3);
        Check.same("the button", kit.down(), 3);
        kit.point(1, 9);
        Check.same("not over it", kit.up(), -1);
        kit.able(0, true);
        Check.same("all are off", kit.down(), -1);
    }

    private static void hidden() {
        ScreenKit kit = new ScreenKit(60, 64);
        Check.form(kit, "col{button slider(bind=1,least=3)}");
        Check.style(kit, "*{tall:6;}");
        kit.put(1, 50);
        kit.point(30, 8);
        Check.style(kit, "slider{hide:1;}");
        Check.same("the pointer is over it yet", kit.count(7), 2);
        Check.same("down answers it", kit.down(), 2);
        Check.same("pressed no more", kit.count(6), -1);
        Check.same("nor focused", kit.count(5), -1);
        Check.same("of width 0: least", kit.cell(1), 3);
        Check.same("the button is down", kit.down(), -5);
        Check.same("nothing clicked", kit.up(), -1);
        Check.style(kit, "*{tall:6;}");
        kit.point(5, 2);
        kit.down();
        Check.style(kit, "button{hide:1;}");
        Check.same("comes to be hidden", kit.count(6) * 10 + kit.count(5), -11);
        Check.same("nothing clicked", kit.up(), -1);
        Check.style(kit, "*{tall:6;}:press{hide:1;}");
        kit.point(5, 2);
        Check.same("hidden by being pressed", kit.down(), 1);
        Check.same("pressed no more", kit.count(6), -1);
        kit.up();
        Check.style(kit, "*{tall:6;}button:hover{hide:1;}");
        Check.same("hidden as the pointer is over it yet", kit.point(5, 2), 2);
        Check.same("over it, which hides it", kit.point(5, 2), 1);
        Check.same("hidden", kit.widget(1, 10), 1);
        Check.same("another is there", kit.point(5, 2), 2);
        Check.same("it is there again", kit.point(5, 2), 1);
    }

    private static void sliders() {
        ScreenKit kit = new ScreenKit(33, 16);
        Check.form(kit, "slider(bind=3,least=10,most=70)");
        int[][] due = {{0, 10}, {1, 10}, {2, 12}, {16, 40}, {30, 68}, {31, 70}, {32, 70}};
        for (int[] d : due) {
            kit.point(d[0], 3);
            kit.down();
            Check.same("at " + d[0], kit.cell(3), d[1]);
            kit.up();
        }
        kit.point(16, 3);
        kit.down();
        kit.point(Integer.MAX_VALUE, -1);
        Check.same("beside the screen", kit.cell(3), 70);
        kit.point(Integer.MIN_VALUE, -1);
        Check.same("on the other side", kit.cell(3), 10);
        kit.up();
        kit.point(20, 3);
        Check.same("not pressed", kit.cell(3), 10);
        Check.style(kit, "slider{dir:1;}");
        int[][] turned = {{32, 10}, {31, 10}, {30, 12}, {1, 70}, {0, 70}};
        for (int[] d : turned) {
            kit.point(d[0], 3);
            kit.down();
            Check.same("turned at " + d[0], kit.cell(3), d[1]);
            kit.up();
        }
        kit.focus(0);
        kit.put(3, 20);
        kit.key(1, false);
        Check.same("more", kit.cell(3), 21);
        Check.style(kit, "");
        kit.key(1, false);
        kit.key(1, false);
        Check.same("less", kit.cell(3), 19);
        kit.put(3, 1000);
        kit.key(2, false);
        Check.same("held to most", kit.cell(3), 70);
        kit.put(3, Integer.MIN_VALUE);
        kit.key(1, false);
        Check.same("held to least", kit.cell(3), 10);
        Check.form(kit, "slider(bind=3,least=10,most=5)");
        kit.focus(0);
        kit.key(2, false);
        Check.same("the greater of least and most", kit.cell(3), 10);
        kit.point(20, 3);
        kit.down();
        Check.same("of any place", kit.cell(3), 10);
        Check.form(kit, "slider(least=10)");
        kit.point(20, 3);
        kit.down();
        kit.key(2, false);
        Check.same("bound to none", kit.cell(3), 10);
        kit = new ScreenKit(33, 40);
        Check.style(kit, "stack{pad:9;line:3;}slider{pad:3;}");
        Check.form(kit, "stack{slider(bind=3,least=5,most=40)}");
        Check.same("a content of 3", Check.place(kit, 1), "12 12 9 16");
        kit.point(20, 20);
        kit.down();
        Check.same("width below 4", kit.cell(3), 5);
        Check.style(kit, "stack{pad:9;line:3;}slider{pad:2;}");
        kit.point(17, 20);
        Check.same("width 5", kit.cell(3), 40);
        kit.point(16, 20);
        Check.same("a half, the whole part", kit.cell(3), 22);
    }

    /** FOCUS and PRESS count when a slider is set by the pointer. */
    private static void sequence() {
        ScreenKit kit = new ScreenKit(33, 16);
        Check.style(kit, ":focus{pad:3;}");
        Check.form(kit, "slider(bind=3,most=24)");
        kit.point(10, 3);
        kit.down();
        Check.same("by its places then", kit.cell(3), 6);
        kit.up();
        Check.style(kit, "slider:press{pad:3;}");
        kit.point(10, 3);
        kit.down();
        Check.same("as pressed", kit.cell(3), 6);
        kit.point(40, 3);
        kit.point(11, 3);
        Check.same("as hovered again", kit.cell(3), 7);
        kit.point(11, 30);
        Check.same("not hovered", kit.cell(3), 10 * 24 / 30);
        Check.form(kit, "row{button button}");
        Check.style(kit, "button:focus{wide:20;}button:hover{tall:9;}");
        kit.focus(2);
        Check.same("focus counts at once", kit.widget(2, 8), 20);
        kit.focus(1);
        Check.same("and for the other", kit.widget(2, 8), 0);
    }

    private static void keys() {
        ScreenKit kit = six();
        int[] wrong = {0, -1, 16, 31, 128};
        for (int k : wrong) {
            Check.same("key " + k, kit.key(k, false), -4);
        }
        int[] right = {1, 15, 32, 127};
        for (int k : right) {
            Check.same("key " + k, kit.key(k, false), -1);
        }
        Check.same("had none", kit.key(13, false), -1);
        Check.same("the first", kit.count(5), 1);
        int[] due = {2, 3, 4, 6, 1};
        for (int d : due) {
            kit.key(13, false);
            Check.same("the next", kit.count(5), d);
        }
        Check.same("back", kit.key(13, true), 1);
        Check.same("to the last", kit.count(5), 6);
        kit.able(4, true);
        kit.key(13, true);
        Check.same("an off one is passed", kit.count(5), 3);
        kit.key(13, false);
        Check.same("also ahead", kit.count(5), 6);
        kit.point(5, 27);
        kit.down();
        kit.up();
        kit.key(13, true);
        Check.same("from none back", kit.count(5), 6);
        kit.focus(1);
        Check.same("enter", kit.key(14, false), 1);
        Check.same("as a click", kit.cell(1), 5);
        kit.key(' ', false);
        Check.same("blank isn't", kit.cell(1), 5);
        kit.focus(2);
        kit.key(14, true);
        Check.same("a check", kit.cell(2), 1);
        kit.key(14, true);
        Check.same("back", kit.cell(2), 0);
        kit.focus(3);
        kit.key(14, true);
        Check.same("a radio", kit.cell(2), 7);
        Check.form(kit, "tabs{check(bind=0) button}");
        kit.key(13, false);
        Check.same("widget 0", kit.count(5), 0);
        kit.key(13, false);
        Check.same("cell 0", kit.key(14, false) * 100 + kit.cell(0) * 10 + kit.widget(1, 11), 122);
        kit.put(0, 0);
        kit.key(14, false);
        Check.same("cell 0 is checked", kit.cell(0) * 100 + kit.widget(1, 10) * 10 + kit.count(5), 101);
        Check.form(kit, "row{label}");
        Check.same("none there is", kit.key(13, false), -1);
        Check.same("none", kit.count(5), -1);
    }

    private static void focus() {
        ScreenKit kit = six();
        Check.same("a slider", kit.focus(4), 1);
        Check.same("has it", kit.count(5), 4);
        Check.same("no such", kit.focus(7) + kit.focus(-1), -4);
        Check.same("a label", kit.focus(5), -5);
        Check.same("a box", kit.focus(0), -5);
        kit.able(2, true);
        Check.same("an off one", kit.focus(2), -5);
        Check.same("has it yet", kit.count(5), 4);
        Check.style(kit, "radio{hide:1;}");
        Check.same("a hidden one", kit.focus(3), -5);
        kit.able(0, true);
        Check.same("off all around", kit.count(5), -1);
        Check.form(kit, "col{field list tabs{gap} tree table}");
        for (int w = 1; w < 7; w++) {
            Check.same("kind " + w, kit.focus(w), w == 4 ? -5 : 1);
        }
    }

    private static void wheels() {
        ScreenKit kit = new ScreenKit(60, 64);
        Check.form(kit, "row{scroll{col{list(rows=100) gap}} button}");
        Check.style(kit, "scroll{grow:1;}list{tall:24;}gap{tall:60;}button{wide:9;}");
        Check.same("-1001", kit.wheel(-1001), -4);
        Check.same("1001", kit.wheel(1001), -4);
        Check.same("nowhere", kit.wheel(1000), -1);
        kit.point(5, 5);
        Check.same("the list", kit.wheel(7), 3);
        Check.same("its top", kit.widget(3, 14), 7);
        kit.wheel(1000);
        Check.same("the last four", kit.widget(3, 14), 96);
        kit.wheel(-1000);
        Check.same("the first", kit.widget(3, 14), 0);
        kit.point(5, 30);
        Check.same("outwards", kit.wheel(1), 1);
        Check.same("scrolled", kit.widget(1, 14), 6);
        kit.point(59, 5);
        Check.same("a button", kit.wheel(1), -1);
        kit.able(3, true);
        kit.point(5, 5);
        Check.same("also of an off one", kit.wheel(1), 3);
    }

    private static void over() {
        ScreenKit kit = new ScreenKit(40, 40);
        Check.form(kit, "stack{gap row{gap.a} scroll{gap.b}}");
        Check.style(kit, ".a{wide:9;}stack{align:1;pad:5;}scroll{wide:20;tall:20;pad:4;}.b{wide:40;tall:9;}");
        Check.same("the last one", kit.point(16, 16), 5);
        Check.same("its box's frame", kit.point(11, 11), 4);
        Check.same("seen in the content alone", kit.point(29, 20), 4);
        Check.same("beside the content", kit.point(3, 3), 0);
        Check.same("a small one", kit.point(8, 20), 0);
        Check.style(kit, "scroll{hide:1;}stack{pad:5;}");
        Check.same("stays till the next point()", kit.count(7), 0);
        Check.same("not a hidden one", kit.point(16, 16), 2);
    }

    public static void main(String[] args) {
        cells();
        clicks();
        doings();
        outwards();
        hidden();
        sliders();
        sequence();
        keys();
        focus();
        wheels();
        over();
        Check.end("EventTest");
    }
}
