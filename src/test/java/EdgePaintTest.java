/** Point 6 of the document and promises 1, 5, 25 to 27: what is painted, shapes, what is dirty; edge by edge. */
public final class EdgePaintTest {
    private static final int INK = 0xff000000;

    private static String times(String text, int n) {
        return text.repeat(n);
    }

    private static int thrown(ScreenKit kit, int x, int y) {
        try {
            kit.pixel(x, y);
            return 0;
        } catch (ArrayIndexOutOfBoundsException e) {
            return 1;
        }
    }

    /** A screen of 16 .. 96 by 16 .. 64 pixels (the nearest numbers), all white, all dirty. */
    private static void screens() {
        int[][] due = {{15, 15, 16, 16}, {16, 16, 16, 16}, {17, 17, 17, 17}, {95, 63, 95, 63}, {96, 64, 96, 64}, {97, 65, 96, 64},
            {0, 0, 16, 16}, {-1, -1, 16, 16}, {Integer.MIN_VALUE, Integer.MAX_VALUE, 16, 64}, {Integer.MAX_VALUE, Integer.MIN_VALUE, 96, 16}};
        for (int[] d : due) {
            ScreenKit kit = new ScreenKit(d[0], d[1]);
            String what = "screen " + d[0] + " by " + d[1];
            Check.same(what, thrown(kit, d[2] - 1, d[3] - 1) + thrown(kit, 0, 0), 0);
            Check.same(what, thrown(kit, d[2], 0) + thrown(kit, 0, d[3]) + thrown(kit, d[2], 1) + thrown(kit, 1, d[3]), 4);
            Check.same(what, thrown(kit, -1, 0) + thrown(kit, 0, -1) + thrown(kit, -1, 1) + thrown(kit, 1, -1), 4);
            Check.same("white", kit.pixel(0, 0) + kit.pixel(d[2] - 1, d[3] - 1), -2);
            Check.same("none painted", kit.count(9), 0);
            Check.same("all dirty", kit.paint(), d[2] * d[3]);
            Check.same("painted in all", kit.count(9), d[2] * d[3]);
            Check.same("nothing dirty", kit.paint(), 0);
            Check.same("white", kit.pixel(0, 0) + kit.pixel(d[2] - 1, d[3] - 1), -2);
            Check.form(kit, "gap");
            Check.same("the whole screen", Check.place(kit, 0), "0 0 " + d[2] + " " + d[3]);
        }
    }

    private static void over(String colour, int ground, int red) {
        ScreenKit kit = Check.made(16, 16, "stack{gap}", "stack{paper:ff" + String.format("%02x", ground).repeat(3) + ";}gap{paper:"
            + colour + ";}");
        kit.paint();
        Check.same(colour + " over " + ground, kit.pixel(3, 3) >> 16 & 255, red);
        Check.same("A 255", kit.pixel(3, 3) >>> 24, 255);
    }

    /** OVER: (255 - A) * what was there + A * its own, 127 more, divided by 255 (whole part). */
    private static void overs() {
        over("00000000", 255, 255);
        over("00123456", 17, 17);
        over("ff123456", 17, 18);
        over("ff000000", 255, 0);
        over("ffffffff", 0, 255);
        over("01000000", 255, 254);
        over("fe000000", 255, 1);
        over("80000000", 255, 127);
        over("80010000", 255, 128);
        over("80fe0000", 255, 254);
        over("80ff0000", 255, 255);
        over("80ff0000", 0, 128);
        over("7fff0000", 0, 127);
        over("80010000", 0, 1);
        over("7f010000", 0, 0);
        over("80000000", 1, 0);
        over("7f000000", 1, 1);
        ScreenKit kit = Check.made(16, 16, "gap", "gap{paper:80010203;}");
        kit.paint();
        Check.same("each of red, green, blue", kit.pixel(0, 0), 0xff808080 + 0x000001);
    }

    /** Edge over the outermost line columns and lines on each side, each pixel once; behind paper and shape. */
    private static void edges() {
        for (int line = 0; line <= 3; line++) {
            ScreenKit kit = Check.made(24, 20, "stack{gap}", "stack{align:1;}gap{wide:9;tall:8;line:" + line + ";edge:80000000;}");
            kit.paint();
            for (int y = 0; y < 8; y++) {
                for (int x = 0; x < 9; x++) {
                    boolean edge = x < line || y < line || x >= 9 - line || y >= 8 - line;
                    Check.same("pixel " + x + ", " + y + " of line " + line, kit.pixel(7 + x, 6 + y), edge ? 0xff7f7f7f : -1);
                }
            }
            Check.same("beside", kit.pixel(6, 6) + kit.pixel(16, 6) + kit.pixel(7, 5) + kit.pixel(7, 14), -4);
        }
        ScreenKit kit = Check.made(16, 16, "stack{gap}", "stack{pad:6;}gap{line:3;edge:80000000;}");
        kit.paint();
        int n = 0;
        for (int i = 0; i < 256; i++) {
            n += kit.pixel(i % 16, i / 16) == 0xff7f7f7f ? 1 : 0;
        }
        Check.same("a place smaller than two lines", n, 16);
        Check.tell(kit, "m0 0l256 0l256 256l0 256z").shape(1);
        Check.style(kit, "stack{pad:4;}gap{line:1;edge:80ff0000;paper:800000ff;shape:1;ink:8000ff00;}");
        kit.paint();
        int paper = mix(-1, 0x800000ff);
        int shape = mix(paper, 0x8000ff00);
        Check.same("paper, then the shape", kit.pixel(7, 7), shape);
        Check.same("then the edge", kit.pixel(4, 4), mix(shape, 0x80ff0000));
    }

    private static int mix(int was, int colour) {
        int a = colour >>> 24;
        int out = 255;
        for (int shift = 16; shift >= 0; shift -= 8) {
            out = out << 8 | ((255 - a) * (was >> shift & 255) + a * (colour >> shift & 255) + 127) / 255;
        }
        return out;
    }

    /** When FOCUS, its outermost pixels, 1 wide, are turned, behind all else of it. */
    private static void focus() {
        ScreenKit kit = Check.made(24, 20, "stack{button}", "stack{align:1;}button{wide:12;tall:18;pad:3;line:2;edge:ff102030;"
            + "paper:ff405060;}");
        kit.focus(1);
        kit.paint();
        for (int y = 0; y < 18; y++) {
            for (int x = 0; x < 12; x++) {
                boolean outer = x < 1 || y < 1 || x >= 11 || y >= 17;
                boolean edge = x < 2 || y < 2 || x >= 10 || y >= 16;
                int due = outer ? 0xffefdfcf : edge ? 0xff102030 : 0xff405060;
                Check.same("pixel " + x + ", " + y, kit.pixel(6 + x, 1 + y), due);
            }
        }
        kit.focus(0);
        kit.able(1, true);
        kit.paint();
        Check.same("without it", kit.pixel(6, 1), 0xff102030);
        kit = Check.made(16, 16, "stack{tabs}", "stack{pad:3;align:0;}tabs{wide:40;tall:40;paper:ff405060;}");
        kit.focus(1);
        kit.paint();
        Check.same("what is visible of them", kit.pixel(3, 3) == 0xffbfaf9f && kit.pixel(12, 3) == 0xffbfaf9f ? 1 : 0, 1);
        Check.same("cut at the right and below", kit.pixel(12, 12), 0xff405060);
        Check.same("not beyond the content", kit.pixel(13, 3) + kit.pixel(2, 3) + kit.pixel(3, 2), -3);
    }

    /** A slider's line is (height - 1) / 2; none in a height of 0; its knob is 3 wide, held to 0 .. width - 3. */
    private static void sliders() {
        for (int high = 0; high <= 7; high++) {
            ScreenKit kit = Check.made(30, 16 + high, "slider", "slider{pad:8;}");
            kit.paint();
            for (int y = 0; y < 16 + high; y++) {
                boolean line = high > 0 && y == 8 + (high - 1) / 2;
                Check.same("line " + y + " of " + high, kit.pixel(20, y), line ? INK : -1);
                Check.same("knob in line " + y + " of " + high, kit.pixel(9, y), y >= 8 && y < 8 + high ? INK : -1);
            }
        }
        for (int wide = 0; wide <= 6; wide++) {
            for (int dir = 0; dir < 2; dir++) {
                for (int value = 0; value < 2; value++) {
                    ScreenKit kit = Check.made(16 + wide, 20, "slider(bind=1,most=1)", "slider{pad:8;dir:" + dir + ";}");
                    kit.put(1, value);
                    kit.paint();
                    int at = value * Math.max(0, wide - 3);
                    for (int x = 0; x < 16 + wide; x++) {
                        int i = dir == 0 ? x - 8 : 7 + wide - x;
                        boolean knob = x >= 8 && x < 8 + wide && i >= at && i < at + 3;
                        Check.same("pixel " + x + " of " + wide + " at " + value, kit.pixel(x, 8), knob ? INK : -1);
                    }
                }
            }
        }
        knob(0, 3, 0, 0);
        knob(0, 3, 1, 3);
        knob(0, 3, 2, 6);
        knob(0, 3, 3, 10);
        knob(0, 3, 4, 10);
        knob(0, 3, -1, 0);
        knob(0, 3, Integer.MAX_VALUE, 10);
        knob(0, 3, Integer.MIN_VALUE, 0);
        knob(5, 6, 5, 0);
        knob(5, 6, 6, 10);
        knob(5, 6, 4, 0);
        knob(5, 5, 5, 0);
        knob(5, 5, 900, 0);
        knob(6, 5, 5, 0);
        knob(6, 5, 900, 0);
        knob(0, 999, 998, 9);
        knob(0, 999, 999, 10);
        knob(100, 111, 101, 0);
        knob(100, 111, 102, 1);
    }

    /** Of a content 13 wide. */
    private static void knob(int least, int most, int value, int at) {
        ScreenKit kit = Check.made(19, 16, "slider(bind=1,least=" + least + ",most=" + most + ")", "slider{pad:3;}");
        kit.put(1, value);
        kit.paint();
        for (int x = 0; x < 13; x++) {
            Check.same("knob of " + least + " .. " + most + " at " + value + ", pixel " + x, kit.pixel(3 + x, 3),
                x >= at && x < at + 3 ? INK : -1);
        }
    }

    /** Texts of buttons, checks, radios: half the rest (whole part); a rest below 0 is 0. */
    private static void middles() {
        // a is 1 + 1 wide
        for (int side = 16; side <= 20; side++) {
            ScreenKit kit = Check.drawn(side, side, "", "button\"a\"");
            kit.paint();
            int x = (side - 2) / 2;
            int y = (side - 6) / 2;
            Check.same("a button of " + side, kit.pixel(x, y) == INK && kit.pixel(x, y + 4) == INK ? 1 : 0, 1);
            Check.same("its first pixel", kit.pixel(x, y - 1) + kit.pixel(x - 1, y) + kit.pixel(x, y + 5), -3);
            kit = Check.drawn(side, side, "", "check");
            kit.paint();
            Check.same("a check of " + side, kit.pixel(0, y) == INK && kit.pixel(5, y + 5) == INK ? 1 : 0, 1);
            Check.same("no more of it", kit.pixel(0, y - 1) + kit.pixel(6, y) + kit.pixel(0, y + 6), -3);
            kit = Check.drawn(side, side, "", "field\"a\"");
            kit.paint();
            Check.same("a field of " + side, kit.pixel(0, y) == INK && kit.pixel(0, y + 4) == INK ? 1 : 0, 1);
            Check.same("no more of it", kit.pixel(0, y - 1) + kit.pixel(0, y + 5), -2);
        }
        Check.painted("", "row{button\"bb\" button\"aaa\"}", 16, 6, "................", "................", "................",
            "................", "................", "###.###.#.#.#...");
        Check.painted("*{pad:7;}", "button\"bb\"", 16, 9, "................", "................", "................",
            "................", "................", "................", "................", ".......##.......", "................");
    }

    /** List rows: 6 lines each from the top one on, as far as they begin within the content and there are such. */
    private static void lists() {
        ScreenKit kit = new ScreenKit(16, 25);
        for (int d = 0; d < 10; d++) {
            kit.glyph('0' + d, 4, 1L << d % 4 | 1L << 8 + d / 4);
        }
        Check.form(kit, "list(rows=1000000)");
        int[] tops = {0, 7, 8, 96, 97, 996, 999996};
        int top = 0;
        kit.point(3, 3);
        for (int t : tops) {
            while (top < t) {
                int step = Math.min(1000, t - top);
                kit.wheel(step);
                top += step;
            }
            kit.paint();
            for (int i = 0; i < 5; i++) {
                String digits = "" + (t + i);
                for (int k = 0; k < 3 && t + i < 1000000; k++) {
                    for (int p = 0; p < 4; p++) {
                        int d = k < digits.length() ? digits.charAt(k) - '0' : -1;
                        Check.same("row " + digits + ", sign " + k, kit.pixel(5 * k + p, 6 * i), d >= 0 && d % 4 == p ? INK : -1);
                    }
                }
            }
            Check.same("the last that begins", kit.widget(0, 14), t);
        }
        Check.painted("", "list(rows=2)", 16, 16, "#...............", "#...............", "#...............", "#...............",
            "#...............", "................", "#...............", "#...............", "#...............", "#...............",
            "#...............", "................", "................", "................", "................", "................");
        Check.painted("", "list", 16, 2, "................", "................");
    }

    /** Tables: columns as the head has; each part as far as its column's width less 1; rows as they stand alone. */
    private static void tables() {
        // b is 3 + 1 wide; columns of 5, 5, 6
        ScreenKit kit = Check.drawn(16, 25, "", "table(bind=1)");
        kit.put(1, -1);
        Check.tell(kit, "bb,a,bb\na\n,bb,bb,bb\na,a,a").data();
        kit.paint();
        Check.seen(kit, "three columns", 16, 7, "###..#....###.#.", ".....#..........", ".....#..........", ".....#..........",
            ".....#..........", "................", "#...............");
        Check.same("an empty part, two that are cut", Check.picture(kit, 0, 12, 16, 1), ".....###..###.#.\n");
        Check.same("the fourth part isn't seen", Check.picture(kit, 0, 18, 16, 1), "#....#....#.....\n");
        Check.same("no row more", Check.picture(kit, 0, 24, 16, 1), "................\n");
        Check.tell(kit, "b").filter(0);
        kit.paint();
        Check.same("the filtered one", Check.picture(kit, 0, 6, 16, 1), ".....###..###.#.\n");
        Check.same("no other one", Check.picture(kit, 0, 12, 16, 1), "................\n");
        Check.tell(kit, "zz").filter(0);
        kit.paint();
        Check.same("none", Check.picture(kit, 0, 6, 16, 1), "................\n");
        Check.same("the head stands", Check.picture(kit, 0, 0, 16, 1), "###..#....###.#.\n");
        kit.filter(0);
        for (int n = 0; n < 3; n++) {
            Check.tell(kit, "bb\nbb,bb").data();
            Check.tell(kit, "a,a,a,a\naa,aa,aa,aa\naa,aa,aa,aa").data();
        }
        Check.tell(kit, "bb,bb,bb\na\na,a").data();
        kit.paint();
        Check.same("a part that a row hasn't is empty", Check.picture(kit, 0, 6, 16, 1) + Check.picture(kit, 0, 12, 16, 1),
            "#...............\n#....#..........\n");
        Check.tell(kit, "bbbbbbbb").data();
        kit.paint();
        Check.same("one column has all", Check.picture(kit, 0, 0, 16, 1), "###.###.###.###.\n");
        kit.data();
        kit.paint();
        Check.same("no data", Check.picture(kit, 0, 0, 16, 1), "................\n");
        // in a box that cuts it
        kit = Check.drawn(16, 16, "stack{pad:2;align:0;}table{wide:40;}", "stack{table}");
        Check.tell(kit, "bbbbb").data();
        kit.paint();
        Check.same("cut by the box", Check.picture(kit, 0, 2, 16, 1), "..###.###.###...\n");
    }

    /** Data are seen in tables alone; trees and tabs that stand beside them have their own. */
    private static void noTables() {
        String[] forms = {"tree\"\"", "tabs", "list", "gap", "label", "row"};
        for (String form : forms) {
            ScreenKit kit = Check.drawn(16, 16, "", form);
            Check.tell(kit, "bb,b\nb,b").data();
            kit.paint();
            for (int i = 0; i < 256; i++) {
                Check.same("nothing of data in " + form, kit.pixel(i % 16, i / 16), -1);
            }
        }
    }

    /** Tabs: each title's letters 2 columns and 1 line within its part, a line below the chosen one's in line 7. */
    private static void titles() {
        ScreenKit kit = Check.drawn(24, 16, "", "tabs(bind=1){gap\"a\" gap\"b\" gap\"a\"}");
        kit.put(1, 2);
        kit.paint();
        Check.seen(kit, "three titles", 24, 9, "........................", "..#.....###.....#.......", "..#.............#.......",
            "..#.............#.......", "..#.............#.......", "..#.............#.......", "........................",
            "..............######....", "........................");
        Check.style(kit, "tabs{pad:5;}");
        kit.paint();
        Check.same("in a content of 6 lines", Check.picture(kit, 5, 6, 14, 1) + Check.picture(kit, 5, 12, 14, 1),
            "..#.....###...\n..............\n");
    }

    /** A picture in the middle of its content, on each side of the screen. */
    private static void pictures() {
        ScreenKit kit = Check.made(90, 16, "row{gap picture(img=4)}", "gap{wide:70;}picture{grow:1;}");
        kit.image(4, 3, 3);
        for (int i = 0; i < 9; i++) {
            kit.dot(4, i % 3, i / 3, 0xff000000 + i);
        }
        kit.paint();
        for (int i = 0; i < 9; i++) {
            Check.same("pixel " + i, kit.pixel(78 + i % 3, 6 + i / 3), 0xff000000 + i);
        }
        Check.same("beside", kit.pixel(77, 6) + kit.pixel(81, 6) + kit.pixel(78, 5) + kit.pixel(78, 9), -4);
        Check.same("nothing is dirty", kit.paint(), 0);
        kit.dot(4, 2, 2, 0x01ff01ff);
        Check.same("its pixels", kit.paint(), 20 * 16);
        Check.same("A 1 and lanes of 255", kit.pixel(80, 8), 0xffffffff);
        kit.dot(4, 2, 2, 0xffff01fe);
        kit.paint();
        Check.same("each lane as it is", kit.pixel(80, 8), 0xffff01fe);
        kit.image(4, 32, 32);
        kit.dot(4, 31, 31, -1);
        kit.dot(4, 5, 9, 0xff010203);
        Check.style(kit, "gap{wide:58;}");
        kit.paint();
        Check.same("the greatest image, from its first line on", kit.pixel(58 + 5, 9), 0xff010203);
        Check.same("nothing is dirty then", kit.paint(), 0);
        kit = Check.made(96, 16, "picture", "");
        kit.image(1, 3, 3);
        for (int i = 0; i < 9; i++) {
            kit.dot(1, i % 3, i / 3, INK);
        }
        kit.paint();
        for (int i = 0; i < 96 * 16; i++) {
            boolean there = i % 96 >= 46 && i % 96 < 49 && i / 96 >= 6 && i / 96 < 9;
            Check.same("pixel " + i % 96 + ", " + i / 96, kit.pixel(i % 96, i / 96), there ? INK : -1);
        }
        kit = Check.made(20, 16, "row{gap scroll{picture}}", "row{align:0;}gap{wide:10;}scroll{wide:6;tall:5;dir:1;}");
        kit.image(1, 32, 20);
        for (int i = 0; i < 640; i++) {
            kit.dot(1, i % 32, i / 32, INK);
        }
        Check.same("cut at the left", Check.place(kit, 3), "-10 0 32 20");
        kit.paint();
        for (int i = 0; i < 20 * 16; i++) {
            boolean there = i % 20 >= 10 && i / 20 < 12;
            Check.same("visible pixel " + i % 20 + ", " + i / 20, kit.pixel(i % 20, i / 20), there ? INK : -1);
        }
    }

    private static void shapeIs(String text, int due) {
        Check.same("shape " + text, Check.tell(new ScreenKit(16, 16), text).shape(1), due);
    }

    /** shape(): rings of m, l, q, z; at most 64 points; three at least in a ring; numbers 0 .. 256. */
    private static void reading() {
        shapeIs("", 0);
        shapeIs(" \n", 0);
        shapeIs("m0 0l256 256l0 0z", 3);
        shapeIs("m0 0z", -1 - 4);
        shapeIs("m0 0l1 1z", -1 - 8);
        shapeIs("m0 0l1 1l2 2z", 3);
        shapeIs("m0 0q1 1 2 2z", 9);
        shapeIs("m0 0l1 1l2 2l3 3z", 4);
        shapeIs("m0 0l1 1l2 2z m0 0z", -1 - 18);
        shapeIs("m0 0l1 1l2 2zm0 0l1 1z", -1 - 21);
        shapeIs("m0 0l1 1l2 2zm0 0l1 1l2 2z", 6);
        shapeIs("m0 0l1 1l2 2zm0 0l1 1l2 2zm0 0l1 1l2 2z", 9);
        shapeIs("m0 0l1 1l2 2z z", -1 - 14);
        shapeIs("m0 0l1 1l2 2zl1 1z", -1 - 13);
        shapeIs("m0 0m1 1", -1 - 4);
        shapeIs("z", -1 - 0);
        shapeIs("l1 1", -1 - 0);
        shapeIs("q1 1 1 1", -1 - 0);
        shapeIs("x", -1 - 0);
        shapeIs("M0 0l1 1l2 2z", -1 - 0);
        shapeIs("m0 0 1 1", -1 - 5);
        shapeIs("m 0 0 l 1 1 l 2 2 z", 3);
        shapeIs("\nm\n0\n0\nl\n1\n1\nq\n2\n2\n3\n3\nz\n", 10);
        shapeIs("m0 0l1 1l2z", -1 - 10);
        shapeIs("m0 0q1 1 2z", -1 - 10);
        shapeIs("m0 256l256 0l256 256z", 3);
        shapeIs("m257 0l1 1l2 2z", -1 - 1);
        shapeIs("m0 257l1 1l2 2z", -1 - 3);
        shapeIs("m0 0l257 1l2 2z", -1 - 5);
        shapeIs("m0 0l1 257l2 2z", -1 - 7);
        shapeIs("m0 0q257 1 2 2z", -1 - 5);
        shapeIs("m0 0q1 257 2 2z", -1 - 7);
        shapeIs("m0 0q1 1 257 2z", -1 - 9);
        shapeIs("m0 0q1 1 2 257z", -1 - 11);
        shapeIs("m-1 0l1 1l2 2z", -1 - 1);
        shapeIs("m0,0l1 1l2 2z", -1 - 2);
        shapeIs("m0 0" + times("l1 1", 62) + "z", 63);
        shapeIs("m0 0" + times("l1 1", 63) + "z", 64);
        shapeIs("m0 0" + times("l1 1", 64) + "z", -1 - (4 + 63 * 4));
        shapeIs("m0 0" + times("l1 1", 63) + "l", -1 - (4 + 63 * 4));
        shapeIs("m0 0" + times("l1 1", 63) + "l999 z", -1 - (4 + 63 * 4));
        shapeIs("m0 0" + times("l1 1", 55) + "q1 1 2 2z", 64);
        shapeIs("m0 0" + times("l1 1", 54) + "q1 1 2 2z", 63);
        shapeIs("m0 0" + times("l1 1", 56) + "q1 1 2 2z", -1 - (4 + 56 * 4));
        shapeIs("m0 0" + times("l1 1", 56) + "q", -1 - (4 + 56 * 4));
        shapeIs("m0 0" + times("l1 1", 62) + "q1 1 2 2z", -1 - (4 + 62 * 4));
        shapeIs("m0 0" + times("l1 1", 60) + "zm0 0l1 1l2 2z", 64);
        shapeIs("m0 0" + times("l1 1", 61) + "zm0 0l1 1l2 2z", -1 - (4 + 61 * 4 + 1 + 8));
        shapeIs("m0 0" + times("l1 1", 63) + "zm0 0", -1 - (4 + 63 * 4 + 1));
        shapeIs("m0 0" + times("l1 1", 63) + "z m", -1 - (4 + 63 * 4 + 2));
        ScreenKit kit = new ScreenKit(16, 16);
        int[][] numbers = {{0, -4}, {1, 4}, {8, 4}, {9, -4}, {-1, -4}};
        for (int[] n : numbers) {
            Check.same("shape " + n[0], Check.tell(kit, "m0 0l256 0l256 256l0 256z").shape(n[0]), n[1]);
        }
        for (int n = 1; n <= 8; n++) {
            Check.same("only those that were told", kit.cover(n, 4, 4, 1, 1), n == 1 || n == 8 ? 16 : 0);
        }
    }

    private static void covers(String shape, int w, int h, int x, int y, int due) {
        ScreenKit kit = new ScreenKit(16, 16);
        if (Check.tell(kit, shape).shape(5) < 0) {
            Check.same("shape " + shape, 0, 1);
        }
        Check.same("cover of " + shape + " at " + x + ", " + y + " of " + w + " by " + h, kit.cover(5, w, h, x, y), due);
    }

    /** COVER: of the 16 points of a pixel how many are inside; a line has its upper end and not its lower one. */
    private static void covering() {
        String full = "m0 0l256 0l256 256l0 256z";
        covers(full, 1, 1, 0, 0, 16);
        covers(full, 96, 96, 95, 95, 16);
        covers(full, 96, 1, 0, 0, 16);
        covers(full, 97, 1, 0, 0, -4);
        covers(full, 1, 97, 0, 0, -4);
        covers(full, 0, 1, 0, 0, -4);
        covers(full, 1, 0, 0, 0, -4);
        covers(full, 5, 7, 5, 0, -4);
        covers(full, 5, 7, 4, 7, -4);
        covers(full, 5, 7, -1, 0, -4);
        covers(full, 5, 7, 0, -1, -4);
        covers(full, 5, 7, 4, 6, 16);
        // in one pixel the points stand at 32, 96, 160, 224 of 256
        covers("m0 31l256 31l256 256l0 256z", 1, 1, 0, 0, 16);
        covers("m0 32l256 32l256 256l0 256z", 1, 1, 0, 0, 16);
        covers("m0 33l256 33l256 256l0 256z", 1, 1, 0, 0, 12);
        covers("m0 0l256 0l256 224l0 224z", 1, 1, 0, 0, 12);
        covers("m0 0l256 0l256 225l0 225z", 1, 1, 0, 0, 16);
        covers("m0 0l256 0l256 223l0 223z", 1, 1, 0, 0, 12);
        covers("m31 0l256 0l256 256l31 256z", 1, 1, 0, 0, 16);
        covers("m33 0l256 0l256 256l33 256z", 1, 1, 0, 0, 12);
        covers("m0 0l223 0l223 256l0 256z", 1, 1, 0, 0, 12);
        covers("m0 0l225 0l225 256l0 256z", 1, 1, 0, 0, 16);
        covers("m33 32l256 32l256 33l33 33z", 1, 1, 0, 0, 3);
        covers("m31 32l256 32l256 33l31 33z", 1, 1, 0, 0, 4);
        covers("m0 32l256 32l256 32l0 32z", 1, 1, 0, 0, 0);
        covers("m0 0l0 256l256 256l256 0z", 1, 1, 0, 0, 16);
        covers("m0 0l256 0l0 256z", 1, 1, 0, 0, 6);
        covers("m0 0l0 0l0 0z", 1, 1, 0, 0, 0);
        // two rings the same way round, and one against the other
        covers(full + full, 2, 2, 1, 1, 16);
        covers(full + "m0 0l0 256l256 256l256 0z", 2, 2, 1, 1, 0);
        covers(full + "m0 0l0 256l128 256l128 0z", 2, 2, 1, 1, 16);
        covers(full + "m0 0l0 256l128 256l128 0z", 2, 2, 0, 1, 0);
        covers("", 2, 2, 0, 1, 0);
        // a bent line goes by 60 4, 112 16, 156 36, 192 64, 220 100, 240 144, 252 196 to 256 256
        covers("m0 0q256 0 256 256l0 256z", 2, 2, 0, 0, 15);
        covers("m0 0q256 0 256 256l0 256z", 2, 2, 1, 0, 6);
        covers("m0 0l60 4l112 16l156 36l192 64l220 100l240 144l252 196l256 256l0 256z", 2, 2, 1, 0, 6);
        covers("m0 0q0 256 256 256l0 256z", 2, 2, 0, 1, 10);
        covers("m0 0q0 256 256 256l0 256z", 2, 2, 1, 1, 0);
    }

    /** The shape of a widget as it is painted: of each pixel with A * cover / 16, wherever it stands. */
    private static void shapes() {
        ScreenKit kit = new ScreenKit(96, 40);
        Check.tell(kit, "m10 3l250 40q256 200 128 256l200 128l0 200zm50 50l100 60l70 110z").shape(3);
        String style = "gap{shape:3;ink:c0102031;}";
        String[] boxes = {"stack{}", "stack{pad:3;}", "stack{align:1;}gap{wide:30;tall:20;}", "stack{align:2;}gap{wide:31;tall:7;}",
            "stack{align:0;}gap{wide:7;tall:31;}", "stack{align:2;pad:9;line:3;}gap{wide:96;tall:64;}",
            "stack{align:0;pad:9;dir:1;}gap{wide:96;tall:64;}", "stack{align:1;}gap{wide:1;tall:1;}"};
        Check.form(kit, "stack{gap}");
        for (String box : boxes) {
            Check.style(kit, style + box);
            kit.paint();
            shape(kit, box);
        }
        kit = Check.made(96, 64, "gap", "gap{shape:1;}");
        Check.tell(kit, "m0 0l256 0l256 256l0 256z").shape(1);
        kit.paint();
        for (int i = 0; i < 96 * 64; i++) {
            Check.same("all of it", kit.pixel(i % 96, i / 96), INK);
        }
        kit = Check.made(96, 64, "scroll{row{gap gap}}", "row{shape:1;}gap{wide:60;tall:40;}");
        Check.tell(kit, "m0 0l256 0l256 256l0 256zm0 0l0 256l128 256l128 0z").shape(1);
        Check.same("wider than a screen", Check.place(kit, 1), "0 0 120 64");
        kit.paint();
        for (int i = 0; i < 96 * 64; i++) {
            Check.same("from its middle on", kit.pixel(i % 96, i / 96), i % 96 < 60 ? -1 : INK);
        }
        kit = Check.made(96, 64, "gap", "gap{shape:1;ink:10000000;}");
        Check.tell(kit, "m0 0l240 0l240 256l0 256z").shape(1);
        Check.form(kit, "stack{gap}");
        Check.style(kit, "stack{align:0;}gap{shape:1;ink:10000000;wide:4;tall:4;}");
        kit.paint();
        Check.same("12 of 16", kit.cover(1, 4, 4, 3, 1), 12);
        Check.same("A * cover / 16, the whole part", kit.pixel(3, 1), mix(-1, 12 << 24));
        Check.style(kit, "stack{align:0;}gap{shape:1;ink:01000000;wide:4;tall:4;}");
        kit.paint();
        Check.same("12 / 16 is 0", kit.pixel(3, 1), -1);
        Check.same("16 / 16 is 1", kit.pixel(1, 1), mix(-1, 1 << 24));
    }

    private static void shape(ScreenKit kit, String box) {
        int left = kit.widget(1, 4);
        int top = kit.widget(1, 5);
        int wide = kit.widget(1, 6);
        int high = kit.widget(1, 7);
        int frame = kit.styled(0, 3) + kit.styled(0, 4);
        for (int y = 0; y < 40; y++) {
            for (int x = 0; x < 96; x++) {
                boolean seen = x >= left && x < left + wide && y >= top && y < top + high && x >= frame && x < 96 - frame
                    && y >= frame && y < 40 - frame;
                int cover = seen ? kit.cover(3, wide, Math.min(96, high), x - left, y - top) : 0;
                Check.same("pixel " + x + ", " + y + " in " + box, kit.pixel(x, y), mix(-1, 0xc0 * cover / 16 << 24 | 0x102031));
            }
        }
    }

    private static ScreenKit small(String kind, String style) {
        ScreenKit kit = Check.made(40, 40, "stack{" + kind + "}", "stack{align:0;}.x{wide:10;tall:10;}" + style);
        kit.paint();
        return kit;
    }

    /** CHANGED are ink, paper, edge, line, pad, dir, shape; not gap, wide, tall, grow, align by themselves. */
    private static void dirtyStyles() {
        String[] changed = {"ink:ff000001", "paper:00000001", "edge:00000001", "line:1", "pad:1", "dir:1", "shape:1"};
        for (String c : changed) {
            ScreenKit kit = small("gap.x", "");
            Check.style(kit, "stack{align:0;dir:0;}.x{wide:10;tall:10;" + c + ";}");
            Check.same(c + " is dirty", kit.paint(), 100);
            Check.same("once", kit.paint(), 0);
            Check.style(kit, "stack{align:0;}.x{wide:10;tall:10;}");
            Check.same(c + " and back", kit.paint(), 100);
        }
        String[] not = {"gap:9", "grow:9", "align:1", "wide:9;pad:0;wide:10", "shape:0", "line:0", "hide:0"};
        for (String n : not) {
            ScreenKit kit = small("gap.x", "");
            Check.style(kit, "stack{align:0;}.x{wide:10;tall:10;" + n + ";}");
            Check.same(n + " isn't dirty", kit.paint(), 0);
        }
        ScreenKit kit = small("gap.x", "");
        Check.style(kit, "stack{align:0;}.x{wide:10;tall:11;}");
        Check.same("what it is now", kit.paint(), 110);
        Check.style(kit, "stack{align:0;}.x{wide:9;tall:11;}");
        Check.same("what it was", kit.paint(), 110);
        Check.style(kit, "stack{align:2;}.x{wide:9;tall:11;}");
        Check.same("both", kit.paint(), 198);
        Check.style(kit, "stack{align:2;}.x{wide:9;tall:11;hide:1;}");
        Check.same("hidden", kit.paint(), 99);
        Check.style(kit, "stack{align:2;}.x{wide:9;tall:11;hide:1;paper:ff000000;}");
        Check.same("hidden ones have no pixels", kit.paint(), 0);
        Check.style(kit, "stack{align:2;}.x{wide:9;tall:11;paper:ff000000;}");
        Check.same("shown again", kit.paint(), 99);
        Check.style(kit, "stack{align:2;ink:ff000002;}.x{wide:9;tall:11;paper:ff000000;ink:ff000000;}");
        Check.same("the whole screen", kit.paint(), 1600);
        kit = Check.made(16, 16, "scroll{gap}", "gap{tall:60;paper:ff102030;}");
        kit.point(3, 3);
        kit.paint();
        kit.wheel(1);
        Check.same("a place whose visible pixels are the same", kit.paint(), 256);
        kit = Check.made(16, 16, "stack{gap}", "stack{align:0;}gap{wide:1;tall:1;}");
        kit.paint();
        Check.style(kit, "stack{align:0;}gap{wide:1;tall:1;paper:ff102030;}");
        Check.same("one pixel", kit.paint(), 1);
        Check.same("it is painted", kit.pixel(0, 0), 0xff102030);
    }

    /** HOVER, PRESS, OFF aren't seen by themselves; FOCUS and CHECK are; also a text and what it is as it is shown. */
    private static void dirtyStates() {
        ScreenKit kit = small("check.x(bind=1)\"@w\"", ".x{wide:30;}");
        kit.point(3, 3);
        Check.same("hover", kit.paint(), 0);
        kit.down();
        Check.same("focus", kit.paint(), 300);
        kit.up();
        Check.same("checked", kit.paint(), 300);
        kit.put(1, 7);
        Check.same("as well", kit.paint(), 0);
        kit.able(1, true);
        Check.same("focus goes", kit.paint(), 300);
        kit.able(1, false);
        Check.same("off", kit.paint(), 0);
        Check.tell(kit, "@v").text(1);
        Check.same("another text", kit.paint(), 300);
        Check.tell(kit, "v=@v").tongue();
        Check.same("shown as it was", kit.paint(), 0);
        Check.tell(kit, "v=@w").tongue();
        Check.same("shown as another", kit.paint(), 300);
        Check.tell(kit, "w=@w\nv=x").tongue();
        Check.tell(kit, "@w").text(1);
        Check.same("another text that is shown so", kit.paint(), 0);
        Check.tell(kit, "ab").text(1);
        kit.paint();
        Check.tell(kit, "aB").text(1);
        Check.same("its last sign", kit.paint(), 300);
        Check.tell(kit, "aBc").text(1);
        Check.same("a sign more", kit.paint(), 300);
        kit.move(1, 8, 1, 1);
        kit.tick(1);
        Check.same("grow isn't seen", kit.paint(), 0);
    }

    /** The look of list, slider, field, tabs, tree, table, picture. */
    private static void dirtyLooks() {
        ScreenKit kit = small("slider.x(bind=1,most=5)", "");
        kit.put(1, 5);
        Check.same("a value", kit.paint(), 200);
        kit.put(1, 6);
        Check.same("a value beyond most", kit.paint(), 200);
        kit.put(1, 6);
        Check.same("the same", kit.paint(), 0);
        kit.put(2, 6);
        Check.same("of another cell", kit.paint(), 0);
        kit = small("list.x(rows=9,bind=1)", "");
        int n = kit.widget(1, 6) * kit.widget(1, 7);
        kit.put(1, 8);
        Check.same("a row that isn't seen", kit.paint(), n);
        kit.put(1, 9);
        Check.same("none", kit.paint(), n);
        kit.put(1, -1);
        Check.same("none as well", kit.paint(), 0);
        kit.point(3, 3);
        kit.wheel(1);
        Check.same("the top", kit.paint(), n);
        kit.wheel(0);
        Check.same("the same top", kit.paint(), 0);
        kit = small("tree.x(bind=1)\"a(b)cdefg\"", "");
        n = kit.widget(1, 6) * kit.widget(1, 7);
        kit.put(1, 1);
        Check.same("a node that isn't shown", kit.paint(), n);
        kit.point(3, 3);
        kit.wheel(1);
        Check.same("the top", kit.paint(), n);
        kit.wheel(-1);
        kit.able(0, true);
        kit.paint();
        kit.able(0, false);
        Check.click(kit, 3, 3);
        kit.able(0, true);
        Check.same("opened", kit.paint(), n);
        kit = small("tabs.x(bind=1){gap\"@a\" gap\"@b\"}", ".x{wide:40;}");
        n = kit.widget(1, 6) * kit.widget(1, 7);
        kit.put(1, 1);
        Check.same("another page", kit.paint(), n);
        kit.put(1, 2);
        Check.same("none", kit.paint(), n);
        kit.put(1, 3);
        Check.same("none as well", kit.paint(), 0);
        Check.tell(kit, "a=@A").tongue();
        Check.same("a title of a hidden page", kit.paint(), n);
        Check.tell(kit, "a=@A\nb=@b").tongue();
        Check.same("the same titles", kit.paint(), 0);
        kit = small("field.x(wide=1)\"ab\"", "");
        n = kit.widget(1, 6) * kit.widget(1, 7);
        kit.focus(1);
        Check.same("focus", kit.paint(), n);
        kit.key(3, false);
        Check.same("caret, anchor", kit.paint(), n);
        kit.key(3, false);
        Check.same("the same", kit.paint(), 0);
        kit.key(4, true);
        Check.same("caret", kit.paint(), n);
        kit.key(4, false);
        Check.same("anchor", kit.paint(), n);
        kit.key(5, false);
        Check.same("nothing copied", kit.paint(), 0);
        kit.key(8, false);
        kit.key('b', false);
        Check.same("a text and back", kit.paint(), 0);
        kit.key(11, false);
        Check.same("a text", kit.paint(), n);
    }

    /** Data, sort, filter, rows of a table. */
    private static void dirtyTables() {
        ScreenKit kit = small("table.x(bind=1)", ".x{wide:40;tall:36;}");
        kit.put(1, 9);
        int n = 40 * 36;
        String[] all = {"ab,c\nd", "ab,c\ne", "a,bc\ne", "a,bc\n,e", "a,bc\n,e,", "a,bc,\n,e", "a\nbc\n\n,e", "abc,e", "abce", "", ",", ",,", "", "x", "y",
            "y\n,", "y", "ab\nc", "a\nbc", "a\nbd"};
        kit.paint();
        for (String data : all) {
            Check.tell(kit, data).data();
            Check.same("other data " + data, kit.paint(), n);
            Check.tell(kit, data).data();
            Check.same("the same data " + data, kit.paint(), 0);
        }
        Check.tell(kit, "a\n1\n2\n3").data();
        kit.paint();
        Check.tell(kit, "1").filter(1);
        Check.same("a filter", kit.paint(), n);
        Check.tell(kit, "2").filter(1);
        Check.same("another one", kit.paint(), n);
        Check.tell(kit, "2").filter(1);
        Check.same("the same", kit.paint(), 0);
        kit.filter(1);
        kit.paint();
        kit.put(1, 2);
        Check.same("a row", kit.paint(), n);
        kit.put(1, 3);
        Check.same("none", kit.paint(), n);
        kit.put(1, 4);
        Check.same("none as well", kit.paint(), 0);
        for (int i = 0; i < 4; i++) {
            kit.able(0, true);
            kit.paint();
            kit.able(0, false);
            Check.click(kit, 3, 3);
            kit.able(0, true);
            Check.same("sorted", kit.paint(), n);
        }
        kit.able(0, false);
        Check.tell(kit, "a\n1\n2\n3\n4\n5\n6\n7\n8").data();
        kit.paint();
        kit.point(3, 10);
        kit.wheel(1);
        Check.same("the top", kit.paint(), n);
        kit.wheel(-1);
        Check.same("back", kit.paint(), n);
    }

    /** Points of a shape, pixels of an image: those that are the same make nothing dirty. */
    private static void dirtyStock() {
        ScreenKit kit = small("gap.x", ".x{shape:8;}");
        String[] shapes = {"m0 0l9 9l0 9z", "m0 0l9 9l0 8z", "m0 0l9 9l0 8l1 1z", "", "m0 0" + times("l1 1l200 7l3 3", 21) + "z",
            "m0 0" + times("l1 1l200 7l3 3", 21) + "z"};
        String last = "";
        for (String shape : shapes) {
            Check.tell(kit, shape).shape(8);
            Check.same("points " + shape, kit.paint(), shape.equals(last) ? 0 : 100);
            Check.tell(kit, times("m9 9l1 2l3 4z", 4)).shape(7);
            Check.tell(kit, shape).shape(8);
            Check.same("the same points " + shape, kit.paint(), 0);
            last = shape;
        }
        for (int n = 1; n <= 4; n++) {
            kit = small("picture.x(img=" + n + ")", "");
            for (int i = 1; i <= 4; i++) {
                kit.dot(i, 0, 0, 5 + i);
                Check.same("dot of " + i, kit.paint(), i == n ? 100 : 0);
            }
            kit.image(n, 32, 32);
            Check.same("another size", kit.paint(), 1024);
            kit.dot(n, 31, 31, 7);
            Check.same("the last pixel", kit.paint(), 1024);
            kit.dot(n, 31, 31, 8);
            kit.dot(n, 31, 31, 7);
            Check.same("there and back", kit.paint(), 0);
            kit.scale(n, 32, 32);
            Check.same("the same scaled", kit.paint(), 0);
            kit.blend(n, n, 7);
            Check.same("blended", kit.paint(), 1024);
        }
    }

    /** Behind form() and glyph() all is dirty, also what no widget has; behind a fault or a refusal nothing. */
    private static void dirtyAll() {
        String[] forms = {"gap", "dialog", "dialog(bind=1)", "row{gap}"};
        for (String form : forms) {
            ScreenKit kit = Check.made(16, 16, "gap", "");
            kit.paint();
            Check.form(kit, form);
            Check.same("all behind " + form, kit.paint(), 256);
            Check.form(kit, form + "{");
            Check.same("nothing behind a fault", kit.paint(), 0);
            kit.glyph(126, 1, 0L);
            Check.same("all behind a glyph", kit.paint(), 256);
            kit.glyph(127, 1, 0L);
            Check.same("nothing behind a refusal", kit.paint(), 0);
            Check.form(kit, "row{hide");
            Check.style(kit, "*{hide:1;}");
            kit.paint();
            Check.form(kit, form);
            Check.same("all behind a hidden one", kit.paint(), 256);
            Check.same("all in all", kit.count(9) % 256, 0);
        }
    }

    /** The screen is as if all were painted; a pixel is as it was painted latest. */
    private static void parts() {
        ScreenKit kit = Check.made(20, 20, "stack{gap.a tabs gap.b picture}", "*{paper:40ff0000;}stack{line:2;edge:8000ff00;align:0;ink:80000000;}"
            + ".a{wide:12;tall:12;paper:400000ff;line:1;edge:40000000;shape:1;}tabs{wide:10;tall:16;}.b{wide:7;tall:7;paper:80ffff00;}");
        Check.tell(kit, "m0 0l256 20l100 256z").shape(1);
        kit.image(1, 12, 18);
        for (int i = 0; i < 216; i++) {
            kit.dot(1, i % 12, i / 12, 0x40102030 + i);
        }
        kit.focus(2);
        kit.paint();
        String was = Check.picture(kit, 0, 0, 20, 20);
        int[] colours = new int[400];
        for (int i = 0; i < 400; i++) {
            colours[i] = kit.pixel(i % 20, i / 20);
        }
        kit.able(2, true);
        Check.same("as it was painted latest", kit.pixel(2, 2), colours[2 * 20 + 2]);
        Check.same("its pixels", kit.paint(), 160);
        kit.able(2, false);
        kit.focus(2);
        kit.paint();
        for (int i = 0; i < 400; i++) {
            Check.same("pixel " + i % 20 + ", " + i / 20, kit.pixel(i % 20, i / 20), colours[i]);
        }
        Check.same("the picture", Check.picture(kit, 0, 0, 20, 20), was);
    }

    public static void main(String[] args) {
        screens();
        overs();
        edges();
        focus();
        sliders();
        middles();
        lists();
        tables();
        noTables();
        titles();
        pictures();
        reading();
        covering();
        shapes();
        dirtyStyles();
        dirtyStates();
        dirtyLooks();
        dirtyTables();
        dirtyStock();
        dirtyAll();
        parts();
        Check.end("EdgePaintTest");
    }
}
