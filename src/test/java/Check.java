/** What the tests share: telling texts, asking for texts and pictures, and counting what isn't as it is due. */
final class Check {
    static int wrong;
    static int asked;

    private Check() {
    }

    static void same(String what, long got, long due) {
        asked++;
        if (got != due) {
            wrong++;
            System.out.println(what + ": answered " + got + ", due is " + due);
        }
    }

    static void same(String what, String got, String due) {
        asked++;
        if (!got.equals(due)) {
            wrong++;
            System.out.println(what + ": answered\n" + got + "\ndue is\n" + due);
        }
    }

    static void end(String name) {
        System.out.println(name + ": " + asked + " asked, " + wrong + " wrong");
        if (wrong > 0) {
            System.exit(1);
        }
    }

    /** Tells a text on the tape. */
    static ScreenKit tell(ScreenKit kit, String text) {
        for (int i = 0; i < text.length(); i += 8) {
            long c = 0;
            for (int k = i; k < i + 8; k++) {
                c = c << 8 | (k < text.length() ? text.charAt(k) : 0);
            }
            kit.sign(c);
        }
        return kit;
    }

    static ScreenKit made(int width, int height, String form, String style) {
        ScreenKit kit = new ScreenKit(width, height);
        if (tell(kit, form).form() < 0) {
            same("form " + form, -1, 0);
        }
        if (tell(kit, style).style() < 0) {
            same("style " + style, -1, 0);
        }
        return kit;
    }

    static int form(ScreenKit kit, String text) {
        return tell(kit, text).form();
    }

    static int style(ScreenKit kit, String text) {
        return tell(kit, text).style();
    }

    static int form(String text) {
        return form(new ScreenKit(40, 40), text);
    }

    static int style(String text) {
        return style(new ScreenKit(40, 40), text);
    }

    static String letters(ScreenKit kit, int w) {
        StringBuilder b = new StringBuilder();
        for (int k = 0; kit.letter(w, k) >= 0; k++) {
            b.append((char) kit.letter(w, k));
        }
        return b.toString();
    }

    static String ordered(ScreenKit kit, int w, int i) {
        StringBuilder b = new StringBuilder();
        for (int k = 0; kit.ordered(w, i, k) >= 0; k++) {
            b.append((char) kit.ordered(w, i, k));
        }
        return b.toString();
    }

    static String spoken(ScreenKit kit, int w) {
        StringBuilder b = new StringBuilder();
        for (int k = 0; kit.spoken(w, k) >= 0; k++) {
            b.append((char) kit.spoken(w, k));
        }
        return b.toString();
    }

    static String written(ScreenKit kit) {
        StringBuilder b = new StringBuilder();
        for (int k = 0; kit.written(k) >= 0; k++) {
            b.append((char) kit.written(k));
        }
        return b.toString();
    }

    static String clip(ScreenKit kit) {
        StringBuilder b = new StringBuilder();
        for (int k = 0; kit.clip(k) >= 0; k++) {
            b.append((char) kit.clip(k));
        }
        return b.toString();
    }

    /** x, y, width, height of a widget. */
    static String place(ScreenKit kit, int w) {
        return kit.widget(w, 4) + " " + kit.widget(w, 5) + " " + kit.widget(w, 6) + " " + kit.widget(w, 7);
    }

    static String least(ScreenKit kit, int w) {
        return kit.widget(w, 8) + " " + kit.widget(w, 9);
    }

    /** Pixels as they are painted: . white, # black, o another colour; a line each. */
    static String picture(ScreenKit kit, int x, int y, int wide, int high) {
        StringBuilder b = new StringBuilder();
        for (int j = y; j < y + high; j++) {
            for (int i = x; i < x + wide; i++) {
                int c = kit.pixel(i, j);
                b.append(c == 0xffffffff ? '.' : c == 0xff000000 ? '#' : 'o');
            }
            b.append('\n');
        }
        return b.toString();
    }

    static void keys(ScreenKit kit, String signs) {
        for (int i = 0; i < signs.length(); i++) {
            kit.key(signs.charAt(i), false);
        }
    }

    static void click(ScreenKit kit, int x, int y) {
        kit.point(x, y);
        kit.down();
        kit.up();
    }
}
