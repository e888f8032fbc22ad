import java.util.Random;

/** Any arguments in any state: no call throws but what the document names for it. */
public final class WildArgumentsTest {
    private static final int[] WILD = {Integer.MIN_VALUE, Integer.MIN_VALUE + 1, -100000, -1001, -1000, -2, -1, 0, 1, 2, 3, 4,
        5, 7, 8, 9, 15, 16, 31, 32, 33, 39, 40, 59, 60, 61, 63, 64, 95, 96, 97, 126, 127, 128, 1000, 1001, 100000,
        Integer.MAX_VALUE - 1, Integer.MAX_VALUE};
    private static final String[] FORMS = {"col{field\"abc\" list(rows=1000000,bind=0) slider(bind=1,most=999)}",
        "tabs(bind=0){tree(bind=1)\"a(b(c)d)e\" table(bind=2) scroll{grid(cols=8){gap button(do=0+999) check(bind=3)}}}",
        "dialog(bind=0){flow{radio(bind=0) label(wrap=1)\"a bc d\" picture(img=4) dialog(bind=1){field}}}",
        "stack{row{tabs{gap gap} dialog(bind=0){tree\"ab(c)\"}} tree\"ab\" table table tabs slider list(rows=3)}"};
    private static final String[] STYLES = {"", "*{pad:9;line:3;gap:9;}", "*{wide:96;tall:64;dir:1;shape:1;}",
        "*:hover{pad:3;hide:1;}:focus{line:3;edge:80ff0000;}:press{pad:9;}", "*{grow:9;align:2;}gap{hide:1;}"};

    private static void call(ScreenKit kit, int what, int a, int b, int c, int d, int e, long l) {
        switch (what) {
            case 0: kit.sign(l); break;
            case 1: kit.form(); break;
            case 2: kit.style(); break;
            case 3: kit.shape(a); break;
            case 4: kit.glyph(a, b, l); break;
            case 5: kit.widget(a, b); break;
            case 6: kit.letter(a, b); break;
            case 7: kit.field(a, b); break;
            case 8: kit.ordered(a, b, c); break;
            case 9: kit.able(a, b > 0); break;
            case 10: kit.text(a); break;
            case 11: kit.point(a, b); break;
            case 12: kit.down(); break;
            case 13: kit.up(); break;
            case 14: kit.wheel(a); break;
            case 15: kit.key(a, b > 0); break;
            case 16: kit.focus(a); break;
            case 17: kit.move(a, b, c, d); break;
            case 18: kit.tick(a); break;
            case 19: kit.paint(); break;
            case 20: kit.cover(a, b, c, d, e); break;
            case 21: kit.clip(a); break;
            case 22: kit.data(); break;
            case 23: kit.filter(a); break;
            case 24: kit.shown(a, b); break;
            case 25: kit.image(a, b, c); break;
            case 26: kit.dot(a, b, c, d); break;
            case 27: kit.blend(a, b, c); break;
            case 28: kit.scale(a, b, c); break;
            case 29: kit.tongue(); break;
            case 30: kit.spoken(a, b); break;
            case 31: kit.insert(a, b); break;
            case 32: kit.remove(a); break;
            case 33: kit.written(a); break;
            case 34: kit.count(a); break;
            default: named(kit, what, a, b, c); break;
        }
    }

    /** The calls for which the document names an exception: it comes just where it says so. */
    private static void named(ScreenKit kit, int what, int a, int b, int c) {
        boolean due = a < 0 || a >= (what == 35 || what == 36 ? kit.count(1) : 16);
        due |= (what == 35 || what == 36) && (b < 0 || b > 12);
        boolean thrown = false;
        try {
            switch (what) {
                case 35: kit.styled(a, b); break;
                case 36: kit.ruleOf(a, b); break;
                case 37: kit.cell(a); break;
                case 38: kit.put(a, b); break;
                case 39: kit.pixel(a, b); break;
                default: kit.lanes(a, b, c); break;
            }
        } catch (ArrayIndexOutOfBoundsException e) {
            Check.same("call " + what, what >= 39 ? 1 : 0, 1);
            return;
        } catch (IllegalArgumentException e) {
            thrown = true;
        }
        if (what < 39) {
            Check.same("call " + what + " of " + a + ", " + b, thrown ? 1 : 0, due ? 1 : 0);
        }
    }

    public static void main(String[] args) {
        int runs = args.length > 0 ? Integer.parseInt(args[0]) : 400;
        for (int seed = 0; seed < runs && Check.wrong == 0; seed++) {
            Random random = new Random(seed);
            ScreenKit kit = new ScreenKit(WILD[random.nextInt(WILD.length)], WILD[random.nextInt(WILD.length)]);
            try {
                for (int n = 0; n < 400; n++) {
                    if (random.nextInt(20) == 0) {
                        Check.form(kit, FORMS[random.nextInt(FORMS.length)]);
                        Check.style(kit, STYLES[random.nextInt(STYLES.length)]);
                        Check.tell(kit, "a,b,c\n1\nx,y\n,,\n22").data();
                        Check.tell(kit, "m0 0l256 0q256 256 0 256z").shape(1);
                    }
                    int[] some = new int[5];
                    for (int i = 0; i < 5; i++) {
                        some[i] = random.nextBoolean() ? WILD[random.nextInt(WILD.length)] : random.nextInt(20);
                    }
                    call(kit, random.nextInt(41), some[0], some[1], some[2], some[3], some[4], random.nextLong());
                }
            } catch (RuntimeException e) {
                e.printStackTrace(System.out);
                Check.same("run " + seed, 1, 0);
            }
        }
        Check.end("WildArgumentsTest");
    }
}
