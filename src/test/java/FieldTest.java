/** Promises 11, 18, 21, 28: the text of a field, its caret, selection, view, steps and the clip. */
public final class FieldTest {
    private static ScreenKit field(String text, int width) {
        ScreenKit kit = new ScreenKit(96, 20);
        Check.style(kit, "field{wide:" + width + ";}");
        Check.form(kit, "row{field(wide=1)\"" + text + "\" button}");
        kit.focus(1);
        return kit;
    }

    /** Text, caret, anchor, view, steps to undo and redo. */
    private static String now(ScreenKit kit) {
        StringBuilder b = new StringBuilder(Check.letters(kit, 1));
        for (int what = 0; what < 5; what++) {
            b.append(' ').append(kit.field(1, what));
        }
        return b.toString();
    }

    private static void after(ScreenKit kit, int key, boolean shift, String due) {
        Check.same("key " + key, kit.key(key, shift), 1);
        Check.same("behind key " + key, now(kit), due);
    }

    private static void typing() {
        ScreenKit kit = field("abc", 60);
        Check.same("at first", now(kit), "abc 3 3 0 0 0");
        after(kit, 'x', false, "abcx 4 4 0 1 0");
        after(kit, 'y', true, "abcxy 5 5 0 1 0");
        after(kit, '"', false, "abcxy 5 5 0 1 0");
        after(kit, ' ', false, "abcxy  6 6 0 2 0");
        after(kit, '~', false, "abcxy ~ 7 7 0 2 0");
        after(kit, 1, false, "abcxy ~ 6 6 0 2 0");
        after(kit, 'z', false, "abcxy z~ 7 7 0 3 0");
        after(kit, 8, false, "abcxy ~ 6 6 0 4 0");
        after(kit, 127, false, "abcxy  6 6 0 5 0");
        after(kit, 127, false, "abcxy  6 6 0 5 0");
        after(kit, 3, false, "abcxy  0 0 0 5 0");
        after(kit, 8, false, "abcxy  0 0 0 5 0");
        after(kit, 11, false, "abcxy ~ 6 6 0 4 1");
        after(kit, 11, false, "abcxy z~ 7 7 0 3 2");
        after(kit, 11, false, "abcxy ~ 6 6 0 2 3");
        after(kit, 12, false, "abcxy z~ 7 7 0 3 2");
        after(kit, 12, false, "abcxy ~ 6 6 0 4 1");
        after(kit, 12, false, "abcxy  0 0 0 5 0");
        after(kit, 12, false, "abcxy  0 0 0 5 0");
        after(kit, 11, false, "abcxy ~ 6 6 0 4 1");
        after(kit, 'q', false, "abcxy q~ 7 7 0 5 0");
        after(kit, 14, false, "abcxy q~ 7 7 0 5 0");
        after(kit, 'r', false, "abcxy qr~ 8 8 0 6 0");
        for (int n = 0; n < 9; n++) {
            kit.key(11, false);
        }
        Check.same("all undone", now(kit), "abc 3 3 0 0 6");
        after(kit, 11, false, "abc 3 3 0 0 6");
    }

    private static void selecting() {
        ScreenKit kit = field("abcde", 60);
        after(kit, 1, true, "abcde 4 5 0 0 0");
        after(kit, 1, true, "abcde 3 5 0 0 0");
        after(kit, 5, false, "abcde 3 5 0 0 0");
        Check.same("copied", Check.clip(kit), "de");
        after(kit, 1, false, "abcde 3 3 0 0 0");
        after(kit, 2, true, "abcde 4 3 0 0 0");
        after(kit, 1, true, "abcde 3 3 0 0 0");
        after(kit, 5, false, "abcde 3 3 0 0 0");
        Check.same("nothing to copy", Check.clip(kit), "de");
        after(kit, 6, false, "abcde 3 3 0 0 0");
        after(kit, 3, true, "abcde 0 3 0 0 0");
        after(kit, 2, false, "abcde 3 3 0 0 0");
        after(kit, 3, true, "abcde 0 3 0 0 0");
        after(kit, 6, false, "de 0 0 0 1 0");
        Check.same("cut", Check.clip(kit), "abc");
        Check.same("signs of the clip", kit.count(8), 3);
        Check.same("no such", kit.clip(3) + kit.clip(-1), -2);
        after(kit, 4, true, "de 2 0 0 1 0");
        after(kit, 7, false, "abc 3 3 0 2 0");
        after(kit, 7, false, "abcabc 6 6 0 3 0");
        after(kit, 3, true, "abcabc 0 6 0 3 0");
        after(kit, 'x', false, "x 1 1 0 4 0");
        after(kit, 'y', false, "xy 2 2 0 4 0");
        after(kit, 11, false, "abcabc 0 6 0 3 1");
        after(kit, 8, false, " 0 0 0 4 0");
        after(kit, 4, false, " 0 0 0 4 0");
        after(kit, 11, false, "abcabc 0 6 0 3 1");
        after(kit, 127, false, " 0 0 0 4 0");
        Check.same("the clip stays", Check.form(kit, "row{field}"), 2);
        kit.focus(1);
        after(kit, 7, false, "abc 3 3 0 1 0");
    }

    private static void erasing() {
        ScreenKit kit = field("abcd", 60);
        kit.key(3, false);
        kit.key(2, false);
        after(kit, 127, false, "acd 1 1 0 1 0");
        after(kit, 127, false, "ad 1 1 0 2 0");
        after(kit, 8, true, "d 0 0 0 3 0");
        after(kit, 8, false, "d 0 0 0 3 0");
        after(kit, 2, true, "d 1 0 0 3 0");
        after(kit, 8, false, " 0 0 0 4 0");
        after(kit, 11, false, "d 1 0 0 3 1");
        after(kit, 11, false, "ad 1 1 0 2 2");
    }

    private static void room() {
        String forty = "0123456789012345678901234567890123456789";
        ScreenKit kit = field(forty, 60);
        kit.key('x', false);
        Check.same("no room", Check.letters(kit, 1) + kit.field(1, 3), forty + "0");
        kit.key(3, true);
        kit.key(5, false);
        Check.same("forty in the clip", kit.count(8), 40);
        kit.key(4, false);
        kit.key(7, false);
        Check.same("no room at all", Check.letters(kit, 1) + kit.field(1, 3), forty + "0");
        kit.key(8, false);
        kit.key(8, false);
        kit.key(7, false);
        Check.same("as much as there is room for", Check.letters(kit, 1), forty.substring(0, 38) + "01");
        kit.key(3, false);
        kit.key(2, true);
        kit.key('z', false);
        Check.same("in place of the selection", Check.letters(kit, 1), "z" + forty.substring(1, 38) + "01");
    }

    private static void steps() {
        ScreenKit kit = field("", 90);
        for (int n = 0; n < 20; n++) {
            kit.key('a' + n, false);
            kit.key(4, false);
        }
        Check.same("sixteen steps", kit.field(1, 3), 16);
        for (int n = 0; n < 20; n++) {
            kit.key(11, false);
        }
        Check.same("the oldest are gone", now(kit), "abcd 4 4 0 0 16");
        for (int n = 0; n < 20; n++) {
            kit.key(12, false);
        }
        Check.same("all again", Check.letters(kit, 1) + kit.field(1, 3), "abcdefghijklmnopqrst16");
        kit.key('u', false);
        kit.key('v', false);
        Check.same("typed signs are one step", kit.field(1, 3), 16);
        kit.key(11, false);
        Check.same("both", Check.letters(kit, 1), "abcdefghijklmnopqrst");
        for (int n = 0; n < 20; n++) {
            kit.key(11, false);
        }
        Check.same("one more is gone", Check.letters(kit, 1), "abcde");
    }

    private static void series() {
        ScreenKit kit = field("", 60);
        Check.keys(kit, "ab");
        kit.put(0, 1);
        kit.point(80, 5);
        kit.tick(5);
        Check.keys(kit, "c");
        Check.same("one step", kit.field(1, 3), 1);
        kit.focus(1);
        Check.keys(kit, "d");
        Check.same("focus stayed", kit.field(1, 3), 1);
        kit.focus(2);
        kit.focus(1);
        Check.keys(kit, "e");
        Check.same("focus went away", kit.field(1, 3), 2);
        kit.point(50, 5);
        kit.down();
        Check.keys(kit, "f");
        Check.same("down between", now(kit), "abcdef 6 6 0 3 0");
        Check.keys(kit, "g");
        Check.same("none between", kit.field(1, 3), 3);
        kit.point(50, 6);
        Check.keys(kit, "h");
        Check.same("point while pressed between", kit.field(1, 3), 4);
        kit.up();
        Check.keys(kit, "i");
        Check.same("up isn't told", kit.field(1, 3), 4);
        kit.key(13, false);
        kit.key(13, false);
        Check.keys(kit, "j");
        Check.same("around", kit.field(1, 3), 5);
        kit.able(1, true);
        kit.able(1, false);
        kit.focus(1);
        Check.keys(kit, "k");
        Check.same("off between", kit.field(1, 3), 6);
        kit.down();
        kit.down();
        kit.point(50, 5);
        kit.up();
        Check.same("no step of others", kit.field(1, 3), 6);
    }

    private static void view() {
        ScreenKit kit = new ScreenKit(16, 16);
        Check.form(kit, "field\"abcdefgh\"");
        Check.same("at the end", kit.field(0, 2), 5);
        kit.focus(0);
        kit.key(3, false);
        Check.same("at the beginning", kit.field(0, 2), 0);
        for (int n = 0; n < 3; n++) {
            kit.key(2, false);
        }
        Check.same("within", kit.field(0, 0) * 10 + kit.field(0, 2), 30);
        kit.key(2, false);
        Check.same("the least greater one", kit.field(0, 2), 1);
        kit = new ScreenKit(17, 16);
        Check.form(kit, "field\"abcdefgh\"");
        kit.focus(0);
        kit.key(3, false);
        for (int n = 0; n < 4; n++) {
            kit.key(2, false);
        }
        Check.same("the caret is 1 wide: 16 is within 17", kit.field(0, 0) * 10 + kit.field(0, 2), 40);
        Check.style(kit, "field{pad:3;}");
        Check.same("a smaller content", kit.field(0, 2), 2);
        Check.style(kit, "");
        Check.same("it stays so", kit.field(0, 2), 2);
        Check.style(kit, "field{hide:1;}");
        kit.key(3, false);
        Check.same("hidden", kit.field(0, 2), 2);
        Check.style(kit, "field{pad:9;}");
        Check.same("without a content", kit.field(0, 2), 4);
        Check.same("no such", kit.field(0, 5) + kit.field(0, -1) + kit.field(1, 0) + kit.field(-1, 0), -4);
        Check.form(kit, "row");
        Check.same("no field", kit.field(0, 0), -1);
    }

    private static void pointer() {
        ScreenKit kit = field("abcab", 60);
        // a stands at 0 .. 3, b 4 .. 8, c 9 .. 11, a 12 .. 15, b 16 .. 20
        int[][] due = {{0, 0}, {2, 0}, {3, 1}, {6, 1}, {7, 2}, {10, 2}, {11, 3}, {14, 3}, {15, 4}, {18, 4}, {19, 5}, {59, 5}};
        for (int[] d : due) {
            kit.point(d[0], 7);
            Check.same("pressed", kit.down(), 1);
            Check.same("caret at " + d[0], kit.field(1, 0) * 10 + kit.field(1, 1), d[1] * 11);
            kit.up();
        }
        kit.point(0, 7);
        kit.down();
        kit.point(15, 30);
        Check.same("the caret alone", kit.field(1, 0) * 10 + kit.field(1, 1), 40);
        kit.point(-5, 30);
        Check.same("beside the screen", kit.field(1, 0) * 10 + kit.field(1, 1), 0);
        kit.point(95, 30);
        kit.up();
        kit.point(2, 2);
        Check.same("not pressed any more", kit.field(1, 0) * 10 + kit.field(1, 1), 50);
        kit = new ScreenKit(16, 16);
        Check.form(kit, "field\"abcdefgh\"");
        kit.point(1, 3);
        kit.down();
        Check.same("from the view on", kit.field(0, 0), 5);
        kit.point(3, 3);
        Check.same("further", kit.field(0, 0) * 10 + kit.field(0, 1), 65);
    }

    public static void main(String[] args) {
        typing();
        selecting();
        erasing();
        room();
        steps();
        series();
        view();
        pointer();
        Check.end("FieldTest");
    }
}
