import java.util.Random;

/** Promises 32 to 36: images, blends, scaling. */
public final class ImageTest {
    private static int thrown(ScreenKit kit, int n, int x, int y) {
        try {
            kit.lanes(n, x, y);
            return 0;
        } catch (ArrayIndexOutOfBoundsException e) {
            return 1;
        }
    }

    private static void making() {
        ScreenKit kit = new ScreenKit(40, 40);
        Check.same("1 by 1 at first", kit.lanes(1, 0, 0) + kit.lanes(4, 0, 0), 0);
        Check.same("none such", thrown(kit, 1, 1, 0) + thrown(kit, 1, 0, 1) + thrown(kit, 0, 0, 0) + thrown(kit, 5, 0, 0)
            + thrown(kit, 2, -1, 0) + thrown(kit, 2, 0, -1), 6);
        Check.same("no image", kit.image(0, 2, 2) + kit.image(5, 2, 2), -8);
        Check.same("no size", kit.image(1, 0, 2) + kit.image(1, 33, 2) + kit.image(1, 2, 0) + kit.image(1, 2, 33), -16);
        Check.same("an image", kit.image(1, 32, 1), 1);
        Check.same("a dot", kit.dot(1, 31, 0, 0x01020304), 1);
        Check.same("its lanes", kit.lanes(1, 31, 0), 0x01020304);
        Check.same("no dot", kit.dot(1, 32, 0, 1) + kit.dot(1, 0, 1, 1) + kit.dot(1, -1, 0, 1) + kit.dot(0, 0, 0, 1)
            + kit.dot(5, 0, 0, 1), -20);
        Check.same("new", kit.image(1, 32, 2), 1);
        Check.same("all 0", kit.lanes(1, 31, 0), 0);
    }

    private static int blended(int s, int d, int kind) {
        ScreenKit kit = new ScreenKit(40, 40);
        kit.dot(2, 0, 0, d);
        kit.dot(3, 0, 0, s);
        Check.same("blend", kit.blend(2, 3, kind), 1);
        Check.same("the other stays", kit.lanes(3, 0, 0), s);
        return kit.lanes(2, 0, 0);
    }

    private static int times(int x, int y) {
        return (x * y + 127) / 255;
    }

    private static int lane(int s, int d, int a, int b, int kind) {
        int[] all = {0, s, s + times(d, 255 - a), times(s, b), times(s, 255 - b), times(s, b) + times(d, 255 - a),
            times(s, 255 - b) + times(d, 255 - a), s + d, times(s, d), s + d - times(s, d), s < d ? s : d, s > d ? s : d};
        return Math.min(255, all[kind]);
    }

    private static void blending() {
        Check.same("over", blended(0x80402010, 0xff806040, 2), 0xff805030);
        Check.same("held to 255", blended(0xf0f0f0f0, 0x20202020, 7), 0xffffffff);
        Check.same("none", blended(-1, -1, 0), 0);
        Random random = new Random(3);
        for (int n = 0; n < 500; n++) {
            int s = random.nextInt();
            int d = random.nextInt();
            int kind = n % 12;
            int due = 0;
            for (int shift = 24; shift >= 0; shift -= 8) {
                due |= lane(s >>> shift & 255, d >>> shift & 255, s >>> 24, d >>> 24, kind) << shift;
            }
            Check.same("blend " + kind + " of " + s + " onto " + d, blended(s, d, kind), due);
        }
        ScreenKit kit = new ScreenKit(40, 40);
        kit.image(1, 2, 3);
        kit.image(2, 3, 2);
        Check.same("other sizes", kit.blend(1, 2, 1), -5);
        Check.same("wrong", kit.blend(0, 1, 1) + kit.blend(1, 5, 1) + kit.blend(1, 1, -1) + kit.blend(1, 2, 12), -16);
        kit.dot(1, 1, 2, 0x10203040);
        Check.same("onto itself", kit.blend(1, 1, 7), 1);
        Check.same("twice", kit.lanes(1, 1, 2), 0x20406080);
    }

    private static void scaling() {
        ScreenKit kit = new ScreenKit(40, 40);
        Check.same("wrong", kit.scale(0, 1, 1) + kit.scale(5, 1, 1) + kit.scale(1, 0, 1) + kit.scale(1, 1, 33), -16);
        kit.image(1, 2, 1);
        kit.dot(1, 0, 0, 0xff000001);
        kit.dot(1, 1, 0, 0x0000ff02);
        Check.same("to 3", kit.scale(1, 3, 1), 1);
        Check.same("left", kit.lanes(1, 0, 0), 0xff000001);
        Check.same("middle, a half more", kit.lanes(1, 1, 0), 0x80008002);
        Check.same("right", kit.lanes(1, 2, 0), 0x0000ff02);
        Random random = new Random(4);
        for (int n = 0; n < 60; n++) {
            int w = 1 + random.nextInt(n < 50 ? 6 : 32);
            int h = 1 + random.nextInt(n < 50 ? 6 : 32);
            int toW = 1 + random.nextInt(n < 50 ? 6 : 32);
            int toH = 1 + random.nextInt(n < 50 ? 6 : 32);
            scaled(kit, random, w, h, toW, toH);
        }
    }

    private static void scaled(ScreenKit kit, Random random, int w, int h, int toW, int toH) {
        kit.image(2, w, h);
        int[][] old = new int[h][w];
        for (int y = 0; y < h; y++) {
            for (int x = 0; x < w; x++) {
                old[y][x] = random.nextInt();
                kit.dot(2, x, y, old[y][x]);
            }
        }
        Check.same("scale", kit.scale(2, toW, toH), 1);
        // each old pixel is cut into toW * toH parts, each new one has w * h of them
        for (int y = 0; y < toH; y++) {
            for (int x = 0; x < toW; x++) {
                int due = 0;
                for (int shift = 24; shift >= 0; shift -= 8) {
                    long sum = 0;
                    for (int j = y * h; j < (y + 1) * h; j++) {
                        for (int i = x * w; i < (x + 1) * w; i++) {
                            sum += old[j / toH][i / toW] >>> shift & 255;
                        }
                    }
                    due |= (int) ((2 * sum + w * h) / (2L * w * h)) << shift;
                }
                Check.same("pixel " + x + ", " + y + " of " + w + " by " + h + " to " + toW + " by " + toH,
                    kit.lanes(2, x, y), due);
            }
        }
        Check.same("its size", thrown(kit, 2, toW, 0) + thrown(kit, 2, 0, toH), 2);
    }

    private static void pictures() {
        ScreenKit kit = new ScreenKit(20, 16);
        kit.image(3, 5, 4);
        Check.form(kit, "stack{picture(img=3)}");
        Check.style(kit, "stack{align:1;paper:ff204060;}");
        Check.same("least", Check.least(kit, 1), "5 4");
        Check.same("in the middle", Check.place(kit, 1), "7 6 5 4");
        kit.dot(3, 4, 3, 0x80102030);
        kit.dot(3, 0, 0, 0x40ff0010);
        Check.same("first", kit.paint(), 320);
        Check.same("own + what was there", kit.pixel(11, 9), 0xff000000 | 0x10 + times(0x20, 127) << 16
            | 0x20 + times(0x40, 127) << 8 | 0x30 + times(0x60, 127));
        Check.same("held to 255", kit.pixel(7, 6), 0xff000000 | 255 << 16 | times(0x40, 191) << 8 | 0x10 + times(0x60, 191));
        Check.same("lanes 0", kit.pixel(8, 6), 0xff204060);
        Check.same("nothing", kit.paint(), 0);
        kit.dot(3, 0, 0, 0x40ff0010);
        Check.same("the same dot", kit.paint(), 0);
        kit.dot(3, 1, 0, 1);
        Check.same("another", kit.paint(), 20);
        kit.dot(3, 1, 0, 0);
        kit.dot(3, 1, 0, 1);
        Check.same("there and back", kit.paint(), 0);
        kit.dot(1, 0, 0, 7);
        Check.same("of another image", kit.paint(), 0);
        kit.scale(3, 7, 6);
        Check.same("its place", kit.paint(), 42);
        Check.style(kit, "");
        Check.same("wholly", Check.place(kit, 1), "0 0 20 16");
        kit.paint();
        kit.image(3, 2, 3);
        kit.dot(3, 0, 0, 0xff000000);
        kit.dot(3, 1, 2, 0xff000000);
        kit.paint();
        Check.same("half the rest", Check.picture(kit, 8, 5, 4, 5), "....\n.#..\n....\n..#.\n....\n");
        Check.style(kit, "picture{pad:9;}");
        kit.paint();
        Check.same("too small a content", Check.picture(kit, 8, 5, 4, 5), "....\n....\n....\n....\n....\n");
        kit = new ScreenKit(16, 16);
        Check.form(kit, "picture");
        Check.style(kit, "picture{pad:7;}");
        kit.image(1, 4, 4);
        kit.dot(1, 0, 0, 0xff000000);
        kit.dot(1, 1, 1, 0xff000000);
        kit.dot(1, 2, 2, 0xff000000);
        kit.paint();
        Check.same("a rest below 0 is 0", Check.picture(kit, 6, 6, 5, 5), ".....\n.#...\n..#..\n.....\n.....\n");
    }

    public static void main(String[] args) {
        making();
        blending();
        scaling();
        pictures();
        Check.end("ImageTest");
    }
}
