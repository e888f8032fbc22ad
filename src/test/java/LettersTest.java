import java.util.Random;

/** Promises 6, 10, 12: glyphs, the order of letters, wrapped rows, texts as they are shown. */
public final class LettersTest {
    private static void order(int dir, String text, String due) {
        ScreenKit kit = Check.made(96, 20, "label\"" + text + "\"", "*{dir:" + dir + ";}");
        Check.same("order of " + text + " in dir " + dir, Check.ordered(kit, 0, 0), due);
    }

    private static void orders() {
        order(0, "", "");
        order(0, "abc 12, d.", "abc 12, d.");
        order(0, "ABC", "CBA");
        order(0, "ab CD 12", "ab 12 DC");
        order(0, "CD 12 ab", "12 DC ab");
        order(0, "12 AB", "12 BA");
        order(0, "AB cd EF", "BA cd FE");
        order(0, "A, B.", "B ,A.");
        order(0, ".A.", ".A.");
        order(0, "A1", "1A");
        order(0, "1A2b3", "12Ab3");
        order(0, "A 12-34 B", "B 34-12 A");
        order(0, "a 1 B", "a 1 B");
        order(1, "abc", "abc");
        order(1, "ab CD", "DC ab");
        order(1, "12 ab", "ab 12");
        order(1, "ab 12", "ab 12");
        order(1, "12 AB", "BA 12");
        order(1, "a, b.", ".a, b");
        order(1, "A.", ".A");
        order(1, "(a)", ")a(");
        order(1, "1 2", "2 1");
        order(1, "AB ab12 CD", "DC ab12 BA");
    }

    /** The document's words again, sign by sign: classes, levels, and runs turned from the greatest level down. */
    static String plainly(String text, int dir) {
        int n = text.length();
        char[] kind = new char[n];
        int[] level = new int[n];
        char[] way = new char[n];
        char base = dir == 1 ? 'R' : 'L';
        int asL = dir == 1 ? 2 : 0;
        for (int i = 0; i < n; i++) {
            char c = text.charAt(i);
            kind[i] = c >= 'a' && c <= 'z' ? 'L' : c >= 'A' && c <= 'Z' ? 'R' : c >= '0' && c <= '9' ? 'N' : '-';
            way[i] = kind[i];
            if (kind[i] == 'N') {
                way[i] = base;
                for (int k = i - 1; k >= 0; k--) {
                    if (kind[k] == 'L' || kind[k] == 'R') {
                        way[i] = kind[k];
                        break;
                    }
                }
            }
            level[i] = kind[i] == 'R' ? 1 : kind[i] == 'N' && way[i] == 'R' ? 2 : asL;
        }
        for (int i = 0; i < n; i++) {
            if (kind[i] == '-') {
                int a = i;
                int b = i;
                while (a >= 0 && kind[a] == '-') {
                    a--;
                }
                while (b < n && kind[b] == '-') {
                    b++;
                }
                char ahead = a < 0 ? base : way[a];
                char behind = b >= n ? base : way[b];
                level[i] = ahead != behind ? dir : ahead == 'R' ? 1 : asL;
            }
        }
        StringBuilder out = new StringBuilder(text);
        for (int l = 9; l >= 1; l--) {
            int from = 0;
            for (int i = 0; i <= n; i++) {
                if (i == n || level[i] < l) {
                    out.replace(from, i, new StringBuilder(out.substring(from, i)).reverse().toString());
                    from = i + 1;
                }
            }
        }
        return out.toString();
    }

    private static void randomOrders() {
        Random random = new Random(5);
        String signs = "abCD12 .,(";
        for (int n = 0; n < 2000; n++) {
            StringBuilder b = new StringBuilder();
            int size = random.nextInt(15);
            for (int i = 0; i < size; i++) {
                b.append(signs.charAt(random.nextInt(signs.length())));
            }
            int dir = random.nextInt(2);
            order(dir, b.toString(), plainly(b.toString(), dir));
        }
    }

    private static void glyphs() {
        ScreenKit kit = new ScreenKit(20, 20);
        for (int c = 32; c < 127; c++) {
            if (c == '"') {
                continue;
            }
            Check.form(kit, "label\"" + (char) c + "\"");
            kit.paint();
            int columns = 2 + c % 3;
            Check.same("width of " + c, kit.widget(0, 8), columns + 1);
            for (int x = 0; x < 8; x++) {
                for (int y = 0; y < 7; y++) {
                    boolean set = x < columns && y < 5 && (0x1a95 >> (c * 7 + 5 * x + 11 * y) % 13 & 1) == 1;
                    Check.same("pixel " + x + ", " + y + " of " + c, kit.pixel(x, y), set ? 0xff000000 : -1);
                }
            }
        }
    }

    private static void rows() {
        ScreenKit kit = Check.made(26, 40, "col{label(wrap=1)\" one  two three FOUR 1 \" label\" a  b \"}", "");
        Check.same("row 0", Check.ordered(kit, 1, 0), "one");
        Check.same("row 1", Check.ordered(kit, 1, 1), "two");
        Check.same("row 2", Check.ordered(kit, 1, 2), "three");
        Check.same("row 3", Check.ordered(kit, 1, 3), "1 RUOF");
        Check.same("no row", kit.ordered(1, 4, 0) + kit.ordered(1, -1, 0), -2);
        Check.same("not wrapped", Check.ordered(kit, 2, 0), " a  b ");
        Check.same("one row", kit.ordered(2, 1, 0), -1);
        Check.same("beside the row", kit.ordered(2, 0, 6) + kit.ordered(2, 0, -1), -2);
        Check.same("no widget", kit.ordered(3, 0, 0), -1);
        kit = Check.made(60, 40, "col{label(wrap=1)\"ab ab ab\" field\"x\" button\"AB\" tree\"a(B)\" check\"D1\"}", "");
        Check.same("as many as fit", Check.ordered(kit, 1, 0), "ab ab ab");
        Check.same("of no field", kit.ordered(2, 0, 0), -1);
        Check.same("of a button", Check.ordered(kit, 3, 0), "BA");
        Check.same("of a tree", Check.ordered(kit, 4, 0), "a(B)");
        Check.same("of a check", Check.ordered(kit, 5, 0), "1D");
        kit = Check.made(23, 40, "label(wrap=1)\"ab ab ab\"", "");
        Check.same("just so wide", Check.ordered(kit, 0, 0) + "/" + Check.ordered(kit, 0, 1), "ab ab/ab");
        kit = Check.made(22, 40, "label(wrap=1)\"ab ab ab\"", "");
        Check.same("one less", Check.ordered(kit, 0, 0) + "/" + Check.ordered(kit, 0, 2), "ab/ab");
    }

    private static void tongue() {
        ScreenKit kit = Check.made(60, 40,
            "col{label\"@one\" button\"@two\" check\"@one\" field\"@one\" tree\"@one\" tabs{row\"@one\"{label\"@on\"} field\"@two\"}}", "");
        Check.same("a tongue", Check.tell(kit, "one=ONE\ntwo=a bc\n").tongue(), 2);
        Check.same("told", Check.letters(kit, 1), "@one");
        Check.same("signs", kit.widget(1, 13), 4);
        Check.same("shown", Check.ordered(kit, 1, 0), "ENO");
        Check.same("its width", kit.widget(1, 8), 4 + 3 + 3);
        Check.same("a button", Check.ordered(kit, 2, 0), "a bc");
        Check.same("a check", kit.widget(3, 8), 7 + 10);
        Check.same("a tree isn't", Check.ordered(kit, 5, 0), "@one");
        Check.same("a page", Check.ordered(kit, 7, 0), "ENO");
        Check.same("not the word", Check.ordered(kit, 8, 0), "@on");
        Check.same("titles of pages", kit.widget(6, 8), 10 + 4 + 4 + 5 + 5 + 3 + 4);
        Check.tell(kit, "on=x").tongue();
        Check.same("this tongue alone", Check.ordered(kit, 1, 0), "@one");
        Check.same("the other", Check.ordered(kit, 8, 0), "x");
        Check.tell(kit, "two=x\"").tongue();
        Check.same("behind a fault as it was", Check.ordered(kit, 8, 0), "x");
        ScreenKit alone = Check.made(60, 40, "label\"@w\"", "");
        Check.tell(alone, "v=x\nw=abc").tongue();
        Check.same("widget 0", Check.ordered(alone, 0, 0) + alone.widget(0, 8), "abc12");
        Check.same("another text", Check.tell(kit, "a\"b\nc" + "d".repeat(50)).text(1), 40);
        Check.same("but line ends and \"", Check.letters(kit, 1), "abc" + "d".repeat(37));
        Check.same("the word of a line", Check.tell(kit, "@on").text(1), 3);
        Check.same("is shown", Check.ordered(kit, 1, 0), "x");
        Check.same("empty", kit.text(1), 0);
        Check.same("no widget", kit.text(10) * 10 + kit.text(-1), -22);
        Check.same("of another kind", kit.text(0) * 10 + kit.text(4), -55);
    }

    public static void main(String[] args) {
        orders();
        randomOrders();
        glyphs();
        rows();
        tongue();
        Check.end("LettersTest");
    }
}
