/** Point 7 of the document and promises 11, 21, 28: fields, their keys, steps, views; edge by edge. */
public final class EdgeFieldTest {
    private static final String FORTY = "0123456789012345678901234567890123456789";

    /** A field of this text in a content so wide, with FOCUS, and a button. */
    private static ScreenKit field(String text, int width) {
        ScreenKit kit = new ScreenKit(96, 20);
        Check.style(kit, "field{wide:" + width + ";}button{wide:4;}");
        Check.form(kit, "row{field(wide=1)\"" + text + "\" button}");
        kit.focus(1);
        return kit;
    }

    /** Text, caret, anchor, view, steps to undo and redo. */
    private static String now(ScreenKit kit) {
        StringBuilder b = new StringBuilder(Check.letters(kit, 1));
        for (int what = 0; what < 5; what++) {
            b.append(' ').append(kit.field(1, what));
        }
        return b.toString();
    }

    private static void after(ScreenKit kit, int key, boolean shift, String due) {
        Check.same("key " + key, kit.key(key, shift), 1);
        Check.same("behind key " + key + (shift ? " with shift" : ""), now(kit), due);
    }

    /** At most 40 signs. */
    private static void forty() {
        ScreenKit kit = field(FORTY.substring(0, 39), 90);
        after(kit, 'x', false, FORTY.substring(0, 39) + "x 40 40 18 1 0");
        after(kit, 'y', false, FORTY.substring(0, 39) + "x 40 40 18 1 0");
        after(kit, 1, true, FORTY.substring(0, 39) + "x 39 40 18 1 0");
        after(kit, 'y', false, FORTY.substring(0, 39) + "y 40 40 18 2 0");
        after(kit, 5, false, FORTY.substring(0, 39) + "y 40 40 18 2 0");
        after(kit, 3, true, FORTY.substring(0, 39) + "y 0 40 0 2 0");
        after(kit, 5, false, FORTY.substring(0, 39) + "y 0 40 0 2 0");
        Check.same("forty in the clip", Check.clip(kit), FORTY.substring(0, 39) + "y");
        Check.same("counted", kit.count(8) * 1000 + kit.clip(39) * 10 + kit.clip(40), 40000 + 'y' * 10 - 1);
        after(kit, 7, false, FORTY.substring(0, 39) + "y 40 40 18 3 0");
        after(kit, 7, false, FORTY.substring(0, 39) + "y 40 40 18 3 0");
        after(kit, 8, false, FORTY.substring(0, 39) + " 39 39 18 4 0");
        after(kit, 3, false, FORTY.substring(0, 39) + " 0 0 0 4 0");
        after(kit, 7, false, "0" + FORTY.substring(0, 39) + " 1 1 0 5 0");
        after(kit, 7, false, "0" + FORTY.substring(0, 39) + " 1 1 0 5 0");
        after(kit, 11, false, FORTY.substring(0, 39) + " 0 0 0 4 1");
        kit = field("", 90);
        for (int n = 0; n < 45; n++) {
            kit.key('a', false);
        }
        Check.same("typed", Check.letters(kit, 1).length() * 10 + kit.field(1, 3), 401);
    }

    /** Keys 1 .. 4 move the caret, 0 .. length; with SHIFT the anchor stays. */
    private static void carets() {
        ScreenKit kit = field("abc", 60);
        after(kit, 2, false, "abc 3 3 0 0 0");
        after(kit, 4, false, "abc 3 3 0 0 0");
        after(kit, 2, true, "abc 3 3 0 0 0");
        after(kit, 4, true, "abc 3 3 0 0 0");
        after(kit, 1, false, "abc 2 2 0 0 0");
        after(kit, 1, false, "abc 1 1 0 0 0");
        after(kit, 1, false, "abc 0 0 0 0 0");
        after(kit, 1, false, "abc 0 0 0 0 0");
        after(kit, 3, false, "abc 0 0 0 0 0");
        after(kit, 1, true, "abc 0 0 0 0 0");
        after(kit, 3, true, "abc 0 0 0 0 0");
        after(kit, 2, false, "abc 1 1 0 0 0");
        after(kit, 2, true, "abc 2 1 0 0 0");
        after(kit, 2, true, "abc 3 1 0 0 0");
        after(kit, 2, true, "abc 3 1 0 0 0");
        after(kit, 1, false, "abc 1 1 0 0 0");
        after(kit, 4, true, "abc 3 1 0 0 0");
        after(kit, 2, false, "abc 3 3 0 0 0");
        after(kit, 3, true, "abc 0 3 0 0 0");
        after(kit, 1, false, "abc 0 0 0 0 0");
        after(kit, 4, true, "abc 3 0 0 0 0");
        after(kit, 4, false, "abc 3 3 0 0 0");
        after(kit, 1, true, "abc 2 3 0 0 0");
        after(kit, 1, true, "abc 1 3 0 0 0");
        after(kit, 2, false, "abc 3 3 0 0 0");
        after(kit, 1, true, "abc 2 3 0 0 0");
        after(kit, 3, false, "abc 0 0 0 0 0");
        after(kit, 4, true, "abc 3 0 0 0 0");
        after(kit, 1, true, "abc 2 0 0 0 0");
        after(kit, 2, true, "abc 3 0 0 0 0");
        after(kit, 3, true, "abc 0 0 0 0 0");
        kit = field("", 60);
        for (int k = 1; k <= 15; k++) {
            if (k != 13) {
                after(kit, k, k % 2 == 0, " 0 0 0 0 0");
            }
        }
    }

    /** 32 .. 126 but 34 come in place of the selection; 8 and 127 take it, or the sign ahead, or behind. */
    private static void typing() {
        for (int k = 32; k <= 127; k++) {
            ScreenKit kit = field("abcd", 60);
            kit.key(1, false);
            kit.key(1, true);
            kit.key(1, true);
            String typed = k == 34 ? "abcd 1 3 0 0 0" : k == 127 ? "ad 1 1 0 1 0" : "a" + (char) k + "d 2 2 0 1 0";
            after(kit, k, k % 2 == 0, typed);
        }
        int[] refused = {31, 128, 0, 16, -1};
        for (int k : refused) {
            ScreenKit kit = field("abcd", 60);
            Check.same("key " + k, kit.key(k, false), -4);
            Check.same("nothing", now(kit), "abcd 4 4 0 0 0");
        }
        int[] none = {9, 10, 14, 15, 5, 11, 12, 34};
        for (int k : none) {
            after(field("abcd", 60), k, false, "abcd 4 4 0 0 0");
        }
        ScreenKit kit = field("abcd", 60);
        after(kit, 127, false, "abcd 4 4 0 0 0");
        after(kit, 8, false, "abc 3 3 0 1 0");
        kit.key(3, false);
        after(kit, 8, false, "abc 0 0 0 1 0");
        after(kit, 127, false, "bc 0 0 0 2 0");
        kit.key(2, false);
        after(kit, 8, false, "c 0 0 0 3 0");
        after(kit, 127, false, " 0 0 0 4 0");
        after(kit, 127, false, " 0 0 0 4 0");
        after(kit, 8, false, " 0 0 0 4 0");
        int[] takers = {8, 127, 6};
        for (int k : takers) {
            kit = field("abcd", 60);
            kit.key(1, false);
            kit.key(1, true);
            kit.key(1, true);
            after(kit, k, false, "ad 1 1 0 1 0");
            kit = field("abcd", 60);
            kit.key(3, false);
            kit.key(2, false);
            kit.key(2, true);
            kit.key(2, true);
            after(kit, k, true, "ad 1 1 0 1 0");
            after(kit, 11, false, "abcd 3 1 0 0 1");
        }
    }

    /** 5 copies the selection (if any), 6 copies and takes it, 7 brings the clip in its place. */
    private static void clips() {
        ScreenKit kit = field("abcd", 60);
        after(kit, 7, false, "abcd 4 4 0 0 0");
        after(kit, 6, false, "abcd 4 4 0 0 0");
        after(kit, 5, false, "abcd 4 4 0 0 0");
        Check.same("empty", Check.clip(kit) + kit.count(8) + kit.clip(0), "0-1");
        kit.key(1, true);
        kit.key(1, true);
        after(kit, 5, false, "abcd 2 4 0 0 0");
        Check.same("copied", Check.clip(kit), "cd");
        after(kit, 7, false, "abcd 4 4 0 1 0");
        after(kit, 7, false, "abcdcd 6 6 0 2 0");
        after(kit, 5, false, "abcdcd 6 6 0 2 0");
        after(kit, 6, false, "abcdcd 6 6 0 2 0");
        Check.same("nothing copied", Check.clip(kit), "cd");
        kit.key(3, false);
        kit.key(2, true);
        after(kit, 7, false, "cdbcdcd 2 2 0 3 0");
        kit.key(1, true);
        after(kit, 6, false, "cbcdcd 1 1 0 4 0");
        Check.same("cut", Check.clip(kit), "d");
        Check.same("no such", kit.clip(1) + kit.clip(-1), -2);
        kit = field(FORTY.substring(0, 37), 60);
        kit.key(3, false);
        kit.key(4, true);
        kit.key(5, false);
        kit.key(4, false);
        after(kit, 7, false, FORTY.substring(0, 37) + "012 40 40 25 1 0");
        kit.key(3, false);
        kit.key(2, true);
        kit.key(2, true);
        after(kit, 7, false, "01" + FORTY.substring(2, 37) + "012 2 2 0 2 0");
    }

    private static void series(String what, int due, java.util.function.Consumer<ScreenKit> between) {
        ScreenKit kit = field("abc", 60);
        kit.key('x', false);
        kit.key('y', false);
        Check.same("two signs", kit.field(1, 3), 1);
        between.accept(kit);
        int steps = kit.field(1, 3);
        kit.key('z', false);
        Check.same("a step more behind " + what, kit.field(1, 3) - steps, due);
    }

    /** Signs typed one behind the other, without another key, down(), point() while it is pressed, FOCUS going away, are one. */
    private static void series() {
        series("nothing", 0, k -> { });
        for (int key = 1; key <= 15; key++) {
            if (key != 13) {
                int other = key;
                series("key " + key, 1, k -> k.key(other, false));
            }
        }
        series("key 34", 1, k -> k.key(34, false));
        series("key 127", 1, k -> k.key(127, false));
        series("key 13 round", 1, k -> {
            k.key(13, false);
            k.key(13, false);
        });
        series("key 13 to itself", 1, k -> {
            k.able(2, true);
            k.key(13, false);
        });
        series("keys that are none", 0, k -> {
            k.key(0, false);
            k.key(16, false);
            k.key(31, false);
            k.key(128, false);
        });
        series("down on itself", 1, k -> {
            k.point(30, 10);
            k.down();
        });
        series("down elsewhere, and focus", 1, k -> {
            k.point(95, 10);
            k.down();
            k.focus(1);
        });
        series("point", 0, k -> k.point(30, 10));
        series("focus to itself", 0, k -> k.focus(1));
        series("a refused focus", 0, k -> k.focus(0));
        series("focus away and back", 1, k -> {
            k.focus(2);
            k.focus(1);
        });
        series("off and on", 1, k -> {
            k.able(0, true);
            k.able(0, false);
            k.focus(1);
        });
        series("hidden and shown", 1, k -> {
            Check.style(k, "field{hide:1;}");
            Check.style(k, "");
            k.focus(1);
        });
        series("much else", 0, k -> {
            k.put(1, 1);
            k.tick(5);
            k.paint();
            k.wheel(1);
            k.up();
            k.move(1, 4, 1, 1);
            k.able(2, true);
            Check.style(k, "field{pad:1;}");
            Check.tell(k, "gap").insert(0, 2);
            k.remove(3);
        });
        ScreenKit kit = field("abc", 60);
        kit.point(30, 10);
        kit.down();
        kit.key('x', false);
        kit.key('y', false);
        Check.same("down and two signs", kit.field(1, 3), 1);
        Check.same("down again", kit.down(), -5);
        kit.key('z', false);
        Check.same("a refused down", kit.field(1, 3), 1);
        kit.up();
        kit.key('z', false);
        Check.same("up", kit.field(1, 3), 1);
        kit.point(31, 10);
        kit.key('z', false);
        Check.same("point while it isn't pressed", kit.field(1, 3), 1);
        kit.down();
        kit.key('x', false);
        Check.same("down", kit.field(1, 3), 2);
        kit.point(31, 10);
        kit.key('x', false);
        Check.same("point while it is pressed", kit.field(1, 3), 3);
        kit = field("abc", 60);
        kit.key(1, true);
        kit.key(6, false);
        kit.key('x', false);
        Check.same("cut, then a sign", kit.field(1, 3), 2);
        kit.key(7, false);
        Check.same("then brought", kit.field(1, 3), 3);
        kit.key('x', false);
        Check.same("then a sign", kit.field(1, 3), 4);
        kit.key('y', false);
        Check.same("and one more", kit.field(1, 3), 4);
        kit.key(8, false);
        kit.key('y', false);
        Check.same("taken, then a sign", kit.field(1, 3), 6);
        kit.key(8, false);
        kit.key(8, false);
        Check.same("each one that is taken", kit.field(1, 3), 8);
    }

    /** At most 16 steps; a change forgets what could be redone; what changes nothing makes no step. */
    private static void steps() {
        for (int n = 14; n <= 18; n++) {
            ScreenKit kit = field("", 90);
            for (int i = 0; i < n; i++) {
                kit.key('a' + i, false);
                kit.key(4, false);
            }
            Check.same("steps of " + n, kit.field(1, 3), Math.min(16, n));
            for (int i = 0; i < 16; i++) {
                kit.key(11, false);
            }
            Check.same("what is left of " + n, Check.letters(kit, 1), "abcdefghijklmnopqrst".substring(0, Math.max(0, n - 16)));
            Check.same("steps back of " + n, kit.field(1, 3) * 100 + kit.field(1, 4), Math.min(16, n));
            for (int i = 0; i < 18; i++) {
                kit.key(12, false);
            }
            Check.same("all of it", Check.letters(kit, 1), "abcdefghijklmnopqrst".substring(0, n));
            Check.same("steps again of " + n, kit.field(1, 3) * 100 + kit.field(1, 4), Math.min(16, n) * 100);
        }
        ScreenKit kit = field("ab", 60);
        kit.key('x', false);
        after(kit, 11, false, "ab 2 2 0 0 1");
        after(kit, 127, false, "ab 2 2 0 0 1");
        after(kit, 1, false, "ab 1 1 0 0 1");
        after(kit, 7, false, "ab 1 1 0 0 1");
        after(kit, 6, false, "ab 1 1 0 0 1");
        after(kit, 34, false, "ab 1 1 0 0 1");
        after(kit, 12, false, "abx 3 3 0 1 0");
        after(kit, 11, false, "ab 1 1 0 0 1");
        after(kit, 12, false, "abx 3 3 0 1 0");
        after(kit, 3, false, "abx 0 0 0 1 0");
        after(kit, 11, false, "ab 1 1 0 0 1");
        after(kit, 12, false, "abx 0 0 0 1 0");
        after(kit, 12, false, "abx 0 0 0 1 0");
        after(kit, 11, false, "ab 1 1 0 0 1");
        after(kit, 'y', false, "ayb 2 2 0 1 0");
        after(kit, 12, false, "ayb 2 2 0 1 0");
        after(kit, 11, false, "ab 1 1 0 0 1");
        after(kit, 8, false, "b 0 0 0 1 0");
        after(kit, 11, false, "ab 1 1 0 0 1");
        after(kit, 11, false, "ab 1 1 0 0 1");
        kit = field("", 60);
        after(kit, 'x', false, "x 1 1 0 1 0");
        after(kit, 11, false, " 0 0 0 0 1");
        after(kit, 12, false, "x 1 1 0 1 0");
        after(kit, 8, false, " 0 0 0 2 0");
        after(kit, 11, false, "x 1 1 0 1 1");
        kit = field(FORTY, 90);
        kit.key(3, false);
        kit.key(127, false);
        kit.key('x', false);
        kit.key(4, false);
        kit.key(8, false);
        kit.key('y', false);
        Check.same("forty signs in each", Check.letters(kit, 1) + kit.field(1, 3), "x" + FORTY.substring(1, 39) + "y4");
        kit.key(11, false);
        Check.same("one back", Check.letters(kit, 1) + kit.field(1, 0), "x" + FORTY.substring(1, 39) + "39");
        kit.key(11, false);
        Check.same("two back", Check.letters(kit, 1) + kit.field(1, 0), "x" + FORTY.substring(1, 40) + "40");
        kit.key(11, false);
        Check.same("three back", Check.letters(kit, 1) + kit.field(1, 0), FORTY.substring(1, 40) + "0");
        kit.key(11, false);
        Check.same("four back", Check.letters(kit, 1) + kit.field(1, 0), FORTY + "0");
        for (int n = 0; n < 4; n++) {
            kit.key(12, false);
        }
        Check.same("all again", Check.letters(kit, 1) + kit.field(1, 0), "x" + FORTY.substring(1, 39) + "y40");
    }

    /** VIEW: the greatest number not above what it was such that the caret is within the width less 1, or the least greater one. */
    private static void views() {
        // c is 3 wide
        int[][] due = {{16, 5, 0}, {16, 6, 1}, {15, 5, 1}, {15, 4, 0}, {18, 6, 1}, {19, 6, 0}, {13, 4, 0}, {12, 4, 1}, {7, 9, 7}, {6, 9, 8},
            {96, 31, 0}, {94, 31, 0}, {93, 31, 1}};
        for (int[] d : due) {
            ScreenKit kit = field("c".repeat(40), d[0]);
            kit.key(3, false);
            for (int n = 0; n < d[1]; n++) {
                kit.key(2, false);
            }
            Check.same("view of caret " + d[1] + " in " + d[0], kit.field(1, 2), d[2]);
        }
        ScreenKit kit = field("c".repeat(10), 16);
        Check.same("at the end", kit.field(1, 0) * 100 + kit.field(1, 2), 1005);
        for (int caret = 9; caret >= 5; caret--) {
            kit.key(1, false);
            Check.same("within yet", kit.field(1, 0) * 100 + kit.field(1, 2), caret * 100 + 5);
        }
        kit.key(1, false);
        Check.same("not above the caret", kit.field(1, 0) * 100 + kit.field(1, 2), 404);
        kit.key(4, false);
        kit.key(3, false);
        Check.same("the beginning", kit.field(1, 2), 0);
        kit.key(4, false);
        kit.key(8, false);
        Check.same("stays as the text is shorter", kit.field(1, 0) * 100 + kit.field(1, 2), 905);
        kit.key(3, true);
        kit.key(8, false);
        Check.same("to nothing", kit.field(1, 0) * 100 + kit.field(1, 2), 0);
        kit = field("c".repeat(10), 40);
        Check.same("all of it", kit.field(1, 2), 0);
        Check.style(kit, "field{wide:31;}button{wide:4;}");
        Check.same("just so wide", kit.field(1, 2), 0);
        Check.style(kit, "field{wide:30;}button{wide:4;}");
        Check.same("one less", kit.field(1, 2), 1);
        Check.style(kit, "field{wide:40;}");
        Check.same("it stays so", kit.field(1, 2), 1);
        kit.glyph('c', 4, 0);
        Check.same("wider signs", kit.field(1, 2), 3);
        Check.style(kit, "field{wide:40;hide:1;}");
        kit.glyph('c', 7, 0);
        Check.same("a hidden one's stays", kit.field(1, 2), 3);
        Check.style(kit, "field{wide:40;}");
        Check.same("shown again", kit.field(1, 2), 6);
        kit.move(1, 6, 7, 1);
        kit.tick(1);
        Check.same("moved", kit.field(1, 2), 10);
        kit = new ScreenKit(16, 16);
        Check.form(kit, "field\"ccccc\"");
        Check.style(kit, "field{pad:7;}");
        Check.same("a content of 2", kit.field(0, 2), 5);
        Check.form(kit, "field\"ccccc\"");
        kit.focus(0);
        kit.key(3, false);
        Check.same("nothing ahead", kit.field(0, 2), 0);
        kit.key(2, false);
        Check.same("one sign is 3 wide", kit.field(0, 2), 1);
    }

    /** The first sign from the view on whose middle (its place + half its width, whole part) isn't left of the pointer. */
    private static void pointers() {
        // c is 3 wide, d 4, e 5: middles at 1, 3 + 2, 7 + 2
        int[][] due = {{0, 0}, {1, 0}, {2, 1}, {5, 1}, {6, 2}, {9, 2}, {10, 3}, {11, 3}, {50, 3}};
        for (int[] d : due) {
            ScreenKit kit = field("cde", 60);
            kit.point(d[0], 10);
            kit.down();
            Check.same("at " + d[0], kit.field(1, 0) * 10 + kit.field(1, 1), d[1] * 11);
        }
        ScreenKit kit = field("cde", 60);
        kit.point(6, 10);
        kit.down();
        int[][] carets = {{1, 0}, {2, 1}, {Integer.MAX_VALUE, 3}, {Integer.MIN_VALUE, 0}, {-1, 0}, {9, 2}};
        for (int[] c : carets) {
            kit.point(c[0], 10);
            Check.same("the caret alone, at " + c[0], kit.field(1, 0) * 10 + kit.field(1, 1), c[1] * 10 + 2);
        }
        kit.up();
        kit.point(0, 10);
        Check.same("not pressed", kit.field(1, 0) * 10 + kit.field(1, 1), 22);
        kit = field("ccccccccc", 10);
        Check.same("the view", kit.field(1, 2), 6);
        kit.point(2, 10);
        kit.down();
        Check.same("from the view on", kit.field(1, 0), 7);
        kit.point(-5, 10);
        Check.same("the view's first", kit.field(1, 0) * 10 + kit.field(1, 2), 66);
        kit = field("", 60);
        kit.point(3, 10);
        kit.down();
        Check.same("no sign", kit.field(1, 0), 0);
        kit = field("cde", 60);
        Check.style(kit, "field{wide:60;pad:3;line:1;}");
        kit.point(4 + 1, 10);
        kit.down();
        Check.same("from the content's beginning", kit.field(1, 0), 0);
        kit.point(4 + 2, 10);
        Check.same("one more", kit.field(1, 0), 1);
    }

    private static void questions() {
        ScreenKit kit = field("abc", 60);
        Check.same("no such", kit.field(1, 5) + kit.field(1, -1) + kit.field(0, 0) + kit.field(2, 0) + kit.field(3, 0)
            + kit.field(-1, 0), -6);
        Check.same("its text now", kit.widget(1, 13), 3);
        kit.key('d', false);
        Check.same("a sign more", kit.widget(1, 13) * 1000 + kit.letter(1, 3), 4000 + 'd');
        Check.same("no sign more", kit.letter(1, 4), -1);
    }

    public static void main(String[] args) {
        forty();
        carets();
        typing();
        clips();
        series();
        steps();
        views();
        pointers();
        questions();
        Check.end("EdgeFieldTest");
    }
}
