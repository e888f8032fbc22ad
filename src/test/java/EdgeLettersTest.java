/** Points 4 and 16 of the document and promises 6, 10, 12, 16, 37: glyphs, order, rows, texts, tongues; edge by edge. */
public final class EdgeLettersTest {
    private static final String[] KINDS = {"row", "col", "grid", "stack", "flow", "scroll", "label", "button", "check",
        "radio", "field", "slider", "list", "gap", "tabs", "dialog", "tree", "table", "picture"};

    private static String times(String text, int n) {
        return text.repeat(n);
    }

    /** The glyph of a sign 32 .. 126 has 1 .. 7 columns; bit 8 * row + column tells its pixels, rows 0 .. 4. */
    private static void glyphs() {
        ScreenKit kit = new ScreenKit(20, 20);
        int[][] calls = {{31, 3, -4}, {32, 3, 1}, {126, 3, 1}, {127, 3, -4}, {'a', 0, -4}, {'a', 1, 1}, {'a', 7, 1}, {'a', 8, -4}};
        for (int[] c : calls) {
            Check.same("glyph " + c[0] + " of " + c[1], kit.glyph(c[0], c[1], -1L), c[2]);
        }
        Check.form(kit, "label\"x\"");
        for (int columns = 1; columns <= 7; columns++) {
            Check.same("a glyph", kit.glyph('x', columns, -1L), 1);
            Check.same("one more than its columns", kit.widget(0, 8), columns + 1);
            kit.paint();
            for (int y = 0; y < 8; y++) {
                for (int x = 0; x < 9; x++) {
                    Check.same("pixel " + x + ", " + y + " of " + columns, kit.pixel(x, y),
                        x < columns && y < 5 ? 0xff000000 : -1);
                }
            }
        }
        for (int bit = 0; bit < 64; bit++) {
            kit.glyph('x', 7, 1L << bit);
            kit.paint();
            int set = 0;
            for (int i = 0; i < 400; i++) {
                set += kit.pixel(i % 20, i / 20) == -1 ? 0 : 1;
            }
            boolean there = bit / 8 < 5 && bit % 8 < 7;
            Check.same("pixels of bit " + bit, set, there ? 1 : 0);
            Check.same("pixel of bit " + bit, there ? kit.pixel(bit % 8, bit / 8) : 0xff000000, 0xff000000);
        }
        kit.glyph('x', 7, 0L);
        kit.glyph('a', 1, 1L);
        Check.tell(kit, "xaxa").text(0);
        Check.same("each sign its own", kit.widget(0, 8), 20);
        Check.form(kit, "label\" ~\"");
        kit.glyph(' ', 7, 0L);
        kit.glyph('~', 7, 0L);
        Check.same("the first and the last sign", kit.widget(0, 8), 16);
        Check.same("the last", kit.glyph('~', 1, 1L), 1);
        kit.paint();
        Check.same("its pixel", kit.pixel(8, 0), 0xff000000);
    }

    private static void order(int dir, String text) {
        ScreenKit kit = Check.made(96, 20, "label\"" + text + "\"", "*{dir:" + dir + ";}");
        Check.same("order of " + text + " in dir " + dir, Check.ordered(kit, 0, 0), LettersTest.plainly(text, dir));
    }

    /** L a .. z, R A .. Z, N digits, else neutral. */
    private static void classes() {
        for (int c = 32; c < 127; c++) {
            if (c == '"') {
                continue;
            }
            String s = "" + (char) c;
            for (int dir = 0; dir < 2; dir++) {
                String[] texts = {s, s + "A", s + "a", "A" + s, "a" + s, "A" + s + "B", "a" + s + "B", "A" + s + "b", "a" + s + "b",
                    "A" + s + "1", "1" + s + "2", "A1" + s + "2", s + "1A", s + s + "A", "A," + s + ",B", "a," + s + ",B"};
                for (String text : texts) {
                    order(dir, text);
                }
            }
        }
        order(0, times("aA1, ", 8));
        order(1, times("aA1, ", 8));
        order(0, times("A", 40));
        order(1, times("1", 40));
    }

    private static void rows(String text, int width, String... due) {
        ScreenKit kit = Check.made(Math.max(16, width), 60, "row{label(wrap=1)\"" + text + "\"}", "label{wide:" + width + ";}");
        if (kit.widget(1, 6) != width) {
            kit = Check.made(96, 60, "stack{label(wrap=1)\"" + text + "\"}", "stack{align:0;}label{wide:" + width + ";}");
        }
        Check.same("width", kit.widget(1, 6), width);
        for (int i = 0; i < due.length; i++) {
            Check.same("row " + i + " of " + text, Check.ordered(kit, 1, i), due[i]);
        }
        Check.same("no row more of " + text, kit.ordered(1, due.length, 0), -1);
    }

    /** Words with one blank between, as many as fit, at least one; without a word no row. */
    private static void wrapping() {
        // ab 4 + 5, a blank 5
        rows("ab ab", 23, "ab ab");
        rows("ab ab", 22, "ab", "ab");
        rows("ab ab ab", 37, "ab ab ab");
        rows("ab ab ab", 36, "ab ab", "ab");
        rows("ab ab ab", 23, "ab ab", "ab");
        rows("ab ab ab", 22, "ab", "ab", "ab");
        rows("ab  ab", 23, "ab ab");
        rows("  ab   ab  ", 23, "ab ab");
        rows("ab ", 23, "ab");
        rows("ab ", 90, "ab");
        rows(" ab  ab ", 90, "ab ab");
        rows(" ", 90);
        rows("", 90);
        rows(times(" ", 40), 90);
        rows("a", 4, "a");
        rows("abcdef a", 24, "abcdef", "a");
        rows("a abcdef", 24, "a", "abcdef");
        rows("aB CD", 90, "aDC B");
        rows("aB CD", 13, "aB", "DC");
        Check.same("wrap 0: one row as it is", Check.ordered(Check.made(20, 20, "label\"  ab  ab \"", ""), 0, 0), "  ab  ab ");
        Check.same("a button isn't wrapped", Check.ordered(Check.made(20, 20, "button\" ab  ab \"", ""), 0, 0), " ab  ab ");
        Check.same("the widest word", Check.least(Check.made(20, 20, "label(wrap=1)\"a abc ab\"", ""), 0), "12 18");
        Check.same("rows for that", Check.least(Check.made(20, 20, "label(wrap=1)\"a c abcd c a\"", ""), 0), "16 18");
        Check.same("no word", Check.least(Check.made(20, 20, "label(wrap=1)\"  \"", ""), 0), "0 0");
        Check.same("no text", Check.least(Check.made(20, 20, "label", ""), 0), "0 6");
        // two labels: the rows of one aren't the other's
        Check.painted("", "row{label(wrap=1)\"bb bb b\" label(wrap=1)\"b\"}", 16, 14,
            "###.###.###.....", "................", "................", "................", "................",
            "................", "###.###.........", "................", "................", "................", "................",
            "................", "###.............", "................");
        Check.painted("*{dir:1;}", "label(wrap=1)\"a \"", 16, 1, "..............#.");
    }

    /** text(): of a label, button, check, radio; the tape's signs but 10 and ", the first 40 of them. */
    private static void texts() {
        for (int k = 0; k < KINDS.length; k++) {
            ScreenKit kit = Check.made(20, 20, "row{" + KINDS[k] + "\"old\"}", "");
            boolean told = k >= 6 && k <= 9;
            Check.same("text of " + KINDS[k], Check.tell(kit, "new").text(1), told ? 3 : -5);
            Check.same("letters of " + KINDS[k], Check.letters(kit, 1), told ? "new" : "old");
            Check.same("signs of " + KINDS[k], kit.widget(1, 13), 3);
        }
        ScreenKit kit = Check.made(20, 20, "label\"old\"", "");
        String[][] due = {{"", ""}, {"\n\"\n", ""}, {"a\nb\"c", "abc"}, {times("x", 39), times("x", 39)}, {times("x", 40), times("x", 40)},
            {times("x", 40) + "y", times("x", 40)}, {"\"" + times("x", 40), times("x", 40)}, {times("\n", 41) + "z", "z"},
            {times("x", 39) + "\"\nyz", times("x", 39) + "y"}, {" ~", " ~"}};
        for (String[] d : due) {
            Check.same("how many", Check.tell(kit, d[0]).text(0), d[1].length());
            Check.same("which", Check.letters(kit, 0), d[1]);
        }
        Check.same("no such sign", kit.letter(0, -1) + kit.letter(0, 2), -2);
        Check.same("the first, the last", kit.letter(0, 0) + kit.letter(0, 1), ' ' + '~');
    }

    private static void tongue(String text, int due) {
        ScreenKit kit = Check.made(60, 20, "label\"@old\"", "");
        Check.tell(kit, "old=was").tongue();
        Check.same("tongue " + text, Check.tell(kit, text).tongue(), due);
        Check.same("lines", kit.count(12), due < 0 ? 1 : due);
        Check.same("the old one behind " + text, Check.ordered(kit, 0, 0), due < 0 ? "was" : "@old");
    }

    /** tongue(): lines WORD=TEXT, at most 40 signs, no "; 10 behind each, perhaps not the last; at most 20. */
    private static void tongues() {
        tongue("", 0);
        tongue("\n", 0);
        tongue("\n\n\n", 0);
        tongue("a=b", 1);
        tongue("a=b\n", 1);
        tongue("a=b\n\n\n", 1);
        tongue("\n\na=b", 1);
        tongue("a=b\n\n\nc=d", 2);
        tongue("a=", 1);
        tongue("a=\nb=", 2);
        tongue("a=b=c", 1);
        tongue("a= ", 1);
        tongue("a=" + times("b", 40), 1);
        tongue("a=" + times("b", 40) + "\n", 1);
        tongue("a=" + times("b", 41), -1 - 42);
        tongue("a=" + times("b", 40) + "b=c", -1 - 42);
        tongue("a=" + times(" ", 41), -1 - 42);
        tongue("a=x\"", -1 - 3);
        tongue("a=\"", -1 - 2);
        tongue("a =b", -1 - 1);
        tongue(" a=b", -1 - 0);
        tongue("a=b\n c=d", -1 - 4);
        tongue("a", -1 - 1);
        tongue("a\n", -1 - 1);
        tongue("=b", -1 - 0);
        tongue("a=b\n=", -1 - 4);
        tongue("A=b", -1 - 0);
        tongue("1=b", -1 - 0);
        tongue("abcdefgh=b", 1);
        tongue("abcdefghi=b", -1 - 8);
        tongue("a=b\na=b", -1 - 4);
        tongue("a=b\nab=b\na1=c\nb=a", 4);
        tongue("ab=b\nc=d\nab=c", -1 - 9);
        StringBuilder nineteen = new StringBuilder();
        for (int i = 0; i < 19; i++) {
            nineteen.append((char) ('a' + i)).append("=1\n");
        }
        tongue(nineteen.toString(), 19);
        tongue(nineteen + "z=1", 20);
        tongue(nineteen + "z=1\n\n", 20);
        tongue(nineteen + "z=1\ny=1", -1 - 80);
        tongue(nineteen + "z=1\n\n\ny=1", -1 - 82);
        tongue(nineteen + "z=1\nz=1", -1 - 80);
        tongue(nineteen + "z=1\nabcdefghi", -1 - 80);
        StringBuilder full = new StringBuilder();
        for (int i = 0; i < 20; i++) {
            full.append("wordnr").append((char) ('a' + i)).append('1').append('=').append(times("x", 39)).append((char) ('a' + i)).append('\n');
        }
        ScreenKit kit = Check.made(60, 20, "label\"@wordnrt1\"", "");
        for (int n = 0; n < 3; n++) {
            Check.same("as much as there may be", Check.tell(kit, full.toString()).tongue(), 20);
            Check.same("its last line", Check.ordered(kit, 0, 0), times("x", 39) + "t");
            Check.same("its first line", Check.tell(kit, "@wordnra1").text(0), 9);
            Check.same("shown", Check.ordered(kit, 0, 0), times("x", 39) + "a");
            Check.tell(kit, "@wordnrt1").text(0);
        }
        kit = Check.made(60, 20, "label\"@b\"", "");
        Check.tell(kit, "a=1\nb=2").tongue();
        Check.tell(kit, "x=1").tongue();
        Check.same("a word of an older tongue may be told", Check.tell(kit, "c=1\nb=3").tongue(), 2);
        Check.same("it is this one's", Check.ordered(kit, 0, 0), "3");
    }

    /** A text of label, button, check, radio or page is shown as a line's, if it is @ and just the word of it. */
    private static void shown() {
        for (int k = 0; k < KINDS.length; k++) {
            ScreenKit kit = Check.made(60, 40, "col{" + KINDS[k] + "\"@w\" tabs{" + KINDS[k] + "\"@w\"}}", "");
            int least = kit.widget(2, 8);
            Check.tell(kit, "w=abc").tongue();
            boolean told = k >= 6 && k <= 9;
            Check.same(KINDS[k] + " is shown", Check.ordered(kit, 1, 0), k == 10 ? "" : told ? "abc" : "@w");
            Check.same("a page " + KINDS[k], Check.ordered(kit, 3, 0), k == 10 ? "" : "abc");
            Check.same("its text", Check.letters(kit, 1) + Check.letters(kit, 3), "@w@w");
            Check.same("its signs", kit.widget(1, 13) * 10 + kit.widget(3, 13), 22);
            Check.same("no page", kit.widget(2, 8) >= 16 || least > 16 ? 1 : 0, 1);
        }
        String[][] due = {{"@w", "abc"}, {"@w ", "@w "}, {" @w", " @w"}, {"@", "@"}, {"w", "w"}, {"@ww", "@ww"}, {"@@w", "@@w"},
            {"@v", "@v"}, {"@wx", "de"}, {"", ""}, {"@W", "@W"}};
        for (String[] d : due) {
            ScreenKit kit = Check.made(60, 40, "label\"" + d[0] + "\"", "");
            Check.tell(kit, "w=abc\nwx=de").tongue();
            String got = Check.ordered(kit, 0, 0);
            Check.same(d[0] + " is shown", got, LettersTest.plainly(d[1], 0));
        }
        ScreenKit kit = Check.made(60, 40, "label\"@w\"", "");
        Check.same("without a tongue", kit.widget(0, 8), 2 + (2 + '@' % 3 + 1) + 3);
        Check.tell(kit, "w=").tongue();
        Check.same("an empty line", kit.widget(0, 8) * 10 + kit.widget(0, 13), 2);
        Check.tell(kit, "w=ab cd").tongue();
        Check.same("one row", kit.widget(0, 8), 4 + 5 + 5 + 3 + 4);
        kit = Check.made(60, 40, "label(wrap=1)\"@w\"", "");
        Check.tell(kit, "w=ab cd").tongue();
        Check.same("rows are of what is shown", kit.widget(0, 8) * 100 + kit.widget(0, 9), 912);
        Check.tell(kit, "w=AB").tongue();
        Check.same("order is of what is shown", Check.ordered(kit, 0, 0), "BA");
        Check.tell(kit, "v=AB").tongue();
        Check.same("this tongue alone", Check.ordered(kit, 0, 0), "@w");
        kit = Check.made(60, 40, "tabs{field(wide=1)\"@w\" gap\"@v\"}", "");
        Check.tell(kit, "w=abc\nv=d").tongue();
        Check.same("titles are shown", kit.widget(0, 8), 12 + 4 + 4 + 4);
        Check.same("a field shows its own", Check.letters(kit, 1), "@w");
        Check.same("and speaks it", Check.spoken(kit, 1), "field @w");
    }

    /** ordered(): a label has its rows, others, but fields, one. */
    private static void ordered() {
        ScreenKit kit = Check.made(40, 60, "col{label(wrap=1)\"AB cd efghi\" label\"AB cd\" button\"AB cd\" field\"AB\" list\"AB\" gap\"AB\"}",
            "");
        Check.same("row 0", Check.ordered(kit, 1, 0), "BA cd");
        Check.same("row 1", Check.ordered(kit, 1, 1), "efghi");
        int[][] none = {{1, 2, 0}, {1, -1, 0}, {1, 0, 5}, {1, 0, -1}, {1, 1, 5}, {2, 1, 0}, {2, -1, 0}, {2, 0, 5}, {3, 1, 0}, {4, 0, 0},
            {5, 1, 0}, {6, 0, 2}, {7, 0, 0}, {-1, 0, 0}, {0, 0, 0}};
        for (int[] n : none) {
            Check.same("no sign " + n[0] + ", " + n[1] + ", " + n[2], kit.ordered(n[0], n[1], n[2]), -1);
        }
        Check.same("the first, the last", kit.ordered(1, 0, 0) * 1000 + kit.ordered(1, 1, 4), 'B' * 1000 + 'i');
        Check.same("others", Check.ordered(kit, 5, 0) + Check.ordered(kit, 6, 0), "BABA");
    }

    public static void main(String[] args) {
        glyphs();
        classes();
        wrapping();
        texts();
        tongues();
        shown();
        ordered();
        Check.end("EdgeLettersTest");
    }
}
