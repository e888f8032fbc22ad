import java.util.ArrayList;
import java.util.HashMap;
import java.util.List;
import java.util.Map;

/** What the tests share: telling texts, asking for texts and pictures, and counting what isn't as it is due. */
final class Check {
    static int wrong;
    static int asked;

    private Check() {
    }

    static void same(String what, long got, long due) {
        asked++;
        if (got != due) {
            wrong++;
            System.out.println(what + ": answered " + got + ", due is " + due);
        }
    }

    static void same(String what, String got, String due) {
        asked++;
        if (!got.equals(due)) {
            wrong++;
            System.out.println(what + ": answered\n" + got + "\ndue is\n" + due);
        }
    }

    static void end(String name) {
        System.out.println(name + ": " + asked + " asked, " + wrong + " wrong");
        if (wrong > 0) {
            System.exit(1);
        }
    }

    /** Tells a text on the tape. */
    static ScreenKit tell(ScreenKit kit, String text) {
        for (int i = 0; i < text.length(); i += 8) {
            long c = 0;
            for (int k = i; k < i + 8; k++) {
                c = c << 8 | (k < text.length() ? text.charAt(k) : 0);
            }
            kit.sign(c);
        }
        return kit;
    }

    static ScreenKit made(int width, int height, String form, String style) {
        ScreenKit kit = new ScreenKit(width, height);
        if (tell(kit, form).form() < 0) {
            same("form " + form, -1, 0);
        }
        if (tell(kit, style).style() < 0) {
            same("style " + style, -1, 0);
        }
        return kit;
    }

    static int form(ScreenKit kit, String text) {
        return tell(kit, text).form();
    }

    static int style(ScreenKit kit, String text) {
        return tell(kit, text).style();
    }

    static int form(String text) {
        return form(new ScreenKit(40, 40), text);
    }

    static int style(String text) {
        return style(new ScreenKit(40, 40), text);
    }

    static String letters(ScreenKit kit, int w) {
        StringBuilder b = new StringBuilder();
        for (int k = 0; kit.letter(w, k) >= 0; k++) {
            b.append((char) kit.letter(w, k));
        }
        return b.toString();
    }

    static String ordered(ScreenKit kit, int w, int i) {
        StringBuilder b = new StringBuilder();
        for (int k = 0; kit.ordered(w, i, k) >= 0; k++) {
            b.append((char) kit.ordered(w, i, k));
        }
        return b.toString();
    }

    static String spoken(ScreenKit kit, int w) {
        StringBuilder b = new StringBuilder();
        for (int k = 0; kit.spoken(w, k) >= 0; k++) {
            b.append((char) kit.spoken(w, k));
        }
        return b.toString();
    }

    static String written(ScreenKit kit) {
        StringBuilder b = new StringBuilder();
        for (int k = 0; kit.written(k) >= 0; k++) {
            b.append((char) kit.written(k));
        }
        return b.toString();
    }

    static String clip(ScreenKit kit) {
        StringBuilder b = new StringBuilder();
        for (int k = 0; kit.clip(k) >= 0; k++) {
            b.append((char) kit.clip(k));
        }
        return b.toString();
    }

    /** x, y, width, height of a widget. */
    static String place(ScreenKit kit, int w) {
        return kit.widget(w, 4) + " " + kit.widget(w, 5) + " " + kit.widget(w, 6) + " " + kit.widget(w, 7);
    }

    static String least(ScreenKit kit, int w) {
        return kit.widget(w, 8) + " " + kit.widget(w, 9);
    }

    /** Pixels as they are painted: . white, # black, o another colour; a line each. */
    static String picture(ScreenKit kit, int x, int y, int wide, int high) {
        StringBuilder b = new StringBuilder();
        for (int j = y; j < y + high; j++) {
            for (int i = x; i < x + wide; i++) {
                int c = kit.pixel(i, j);
                b.append(c == 0xffffffff ? '.' : c == 0xff000000 ? '#' : 'o');
            }
            b.append('\n');
        }
        return b.toString();
    }

    static void keys(ScreenKit kit, String signs) {
        for (int i = 0; i < signs.length(); i++) {
            kit.key(signs.charAt(i), false);
        }
    }

    static void click(ScreenKit kit, int x, int y) {
        kit.point(x, y);
        kit.down();
        kit.up();
    }

    /** All that can be asked of an object without changing it (but the tape): its answers, a line each. */
    static String all(ScreenKit kit) {
        StringBuilder b = new StringBuilder();
        for (int what = 1; what <= 13; what++) {
            b.append("count ").append(what).append(' ').append(kit.count(what)).append('\n');
        }
        for (int c = 0; c < 16; c++) {
            b.append(kit.cell(c)).append(' ');
        }
        b.append("\nclip ").append(clip(kit)).append("\nwritten ").append(written(kit)).append('\n');
        for (int w = 0; w < kit.count(1); w++) {
            addWidget(b, kit, w);
        }
        for (int n = 1; n <= 8; n++) {
            for (int i = 0; i < 64; i++) {
                b.append(kit.cover(n, 8, 8, i % 8, i / 8)).append(' ');
            }
            b.append("shape ").append(n).append('\n');
        }
        for (int n = 1; n <= 4; n++) {
            for (int i = 0; i < 32 * 32; i++) {
                b.append(hasLanes(kit, n, i % 32, i / 32) ? kit.lanes(n, i % 32, i / 32) + " " : "");
            }
            b.append("image ").append(n).append('\n');
        }
        return b.append(pixels(kit)).toString();
    }

    private static void addWidget(StringBuilder b, ScreenKit kit, int w) {
        b.append("widget ").append(w).append(':');
        for (int what = 0; what < 16; what++) {
            b.append(' ').append(kit.widget(w, what));
        }
        b.append(" /");
        for (int p = 0; p < 13; p++) {
            b.append(' ').append(kit.styled(w, p)).append(' ').append(kit.ruleOf(w, p));
        }
        b.append(" /").append(letters(kit, w)).append('/').append(spoken(kit, w)).append('/');
        for (int i = 0; kit.ordered(w, i, 0) >= 0; i++) {
            b.append(ordered(kit, w, i)).append('|');
        }
        for (int what = 0; what < 5; what++) {
            b.append(' ').append(kit.field(w, what));
        }
        b.append(' ').append(shown(kit, w)).append('\n');
    }

    private static boolean hasLanes(ScreenKit kit, int n, int x, int y) {
        try {
            kit.lanes(n, x, y);
            return true;
        } catch (ArrayIndexOutOfBoundsException e) {
            return false;
        }
    }

    private static String pixels(ScreenKit kit) {
        StringBuilder b = new StringBuilder();
        for (int i = 0; i < 96 * 64; i++) {
            try {
                b.append(Integer.toHexString(kit.pixel(i % 96, i / 96))).append(i % 96 == 95 ? '\n' : ' ');
            } catch (ArrayIndexOutOfBoundsException e) {
                b.append('.');
            }
        }
        return b.toString();
    }

    /** What a table's or tree's rows are, as they stand. */
    static String shown(ScreenKit kit, int w) {
        StringBuilder b = new StringBuilder();
        for (int i = 0; kit.shown(w, i) >= 0; i++) {
            b.append(i > 0 ? " " : "").append(kit.shown(w, i));
        }
        return b.toString();
    }

    private static final long BAR = 0x0101010101L;

    /** a and figures are a bar of one column, A one of two, b the upper line of three, c the last pixel of two columns. */
    static ScreenKit drawn(int width, int height, String style, String form) {
        ScreenKit kit = new ScreenKit(Math.max(16, width), Math.max(16, height));
        for (int c = '0'; c <= '9'; c++) {
            kit.glyph(c, 1, BAR);
        }
        kit.glyph('a', 1, BAR);
        kit.glyph('A', 2, BAR | BAR << 1);
        kit.glyph('b', 3, 7);
        kit.glyph('c', 2, 2L << 32);
        kit.glyph(' ', 1, 0);
        kit.glyph('+', 3, 0x02L << 8 | 0x07L << 16 | 0x02L << 24);
        kit.glyph('-', 3, 0x07L << 16);
        if (style(kit, style) < 0 || form(kit, form) < 0) {
            same(style + " " + form, 0, 1);
        }
        return kit;
    }

    static void painted(String style, String form, int width, int height, String... due) {
        ScreenKit kit = drawn(width, height, style, form);
        kit.paint();
        seen(kit, style + " " + form, width, height, due);
    }

    static void seen(ScreenKit kit, String what, int width, int height, String... due) {
        StringBuilder b = new StringBuilder();
        for (String line : due) {
            b.append(line).append('\n');
        }
        same(what, picture(kit, 0, 0, width, height), b.toString());
    }

    /** What is written of each widget: "cols" and the like with their numbers, "#name" and ".class" with 1. */
    static List<Map<String, Integer>> attributes(ScreenKit kit) {
        List<Map<String, Integer>> all = new ArrayList<>();
        String written = written(kit);
        for (int i = 0; i < written.length();) {
            char c = written.charAt(i);
            if (c == '"') {
                i = written.indexOf('"', i + 1) + 1;
            } else if (c == '(') {
                int end = written.indexOf(')', i);
                for (String told : written.substring(i + 1, end).split(",")) {
                    String[] parts = told.split("=");
                    if (parts[0].equals("do")) {
                        putDoing(all.get(all.size() - 1), told.substring(3));
                    } else {
                        all.get(all.size() - 1).put(parts[0], Integer.parseInt(parts[1]));
                    }
                }
                i = end + 1;
            } else if (Character.isLetterOrDigit(c)) {
                int from = i;
                boolean kind = i == 0 || "{ ".indexOf(written.charAt(i - 1)) >= 0;
                while (i < written.length() && Character.isLetterOrDigit(written.charAt(i))) {
                    i++;
                }
                if (kind) {
                    all.add(new HashMap<>());
                } else {
                    all.get(all.size() - 1).put(written.substring(from - 1, i), 1);
                }
            } else {
                if (c == '}' && i + 1 < written.length() && Character.isLetterOrDigit(written.charAt(i + 1))) {
                    same("a blank behind } in " + written, 0, 1);
                }
                i++;
            }
        }
        return all;
    }

    /** What a button does: "do" its cell, "sign" + - or =, "by" the number. */
    private static void putDoing(Map<String, Integer> widget, String told) {
        int at = 0;
        while (Character.isDigit(told.charAt(at))) {
            at++;
        }
        widget.put("do", Integer.parseInt(told.substring(0, at)));
        widget.put("sign", (int) told.charAt(at));
        widget.put("by", Integer.parseInt(told.substring(at + 1)));
    }
}
