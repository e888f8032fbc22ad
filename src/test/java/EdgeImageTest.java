/** Point 15 of the document and promises 32 to 36: images, blends, scaling; edge by edge. */
public final class EdgeImageTest {
    private static int thrown(ScreenKit kit, int n, int x, int y) {
        try {
            kit.lanes(n, x, y);
            return 0;
        } catch (ArrayIndexOutOfBoundsException e) {
            return 1;
        }
    }

    /** IMAGES 1 .. 4 are at first 1 by 1, all 0. */
    private static void first() {
        ScreenKit kit = new ScreenKit(16, 16);
        for (int n = -1; n <= 6; n++) {
            boolean there = n >= 1 && n <= 4;
            Check.same("image " + n, thrown(kit, n, 0, 0), there ? 0 : 1);
            Check.same("beside " + n, thrown(kit, n, 1, 0) + thrown(kit, n, 0, 1) + thrown(kit, n, -1, 0) + thrown(kit, n, 0, -1), 4);
            if (there) {
                Check.same("lanes of " + n, kit.lanes(n, 0, 0), 0);
            }
            Check.same("dot of " + n, kit.dot(n, 0, 0, -1), there ? 1 : -4);
            Check.same("dot beside " + n, kit.dot(n, 1, 0, -1) + kit.dot(n, 0, 1, -1), -8);
        }
    }

    /** image(): 1 .. 32 each, all 0; dot(), lanes(): its pixels alone. */
    private static void sizes() {
        int[] sides = {Integer.MIN_VALUE, -1, 0, 1, 2, 31, 32, 33, Integer.MAX_VALUE};
        for (int w : sides) {
            for (int h : sides) {
                ScreenKit kit = new ScreenKit(16, 16);
                boolean good = w >= 1 && w <= 32 && h >= 1 && h <= 32;
                kit.dot(4, 0, 0, 7);
                Check.same("image " + w + " by " + h, kit.image(4, w, h), good ? 1 : -4);
                Check.same("its first pixel", kit.lanes(4, 0, 0), good ? 0 : 7);
                if (good) {
                    Check.same("its last pixel", kit.dot(4, w - 1, h - 1, -5) * 10 + kit.lanes(4, w - 1, h - 1), 5);
                    Check.same("no dot", kit.dot(4, w, 0, 1) + kit.dot(4, 0, h, 1) + kit.dot(4, -1, 0, 1) + kit.dot(4, 0, -1, 1), -16);
                    Check.same("no lanes", thrown(kit, 4, w, 0) + thrown(kit, 4, 0, h) + thrown(kit, 4, w - 1, h) + thrown(kit, 4, w, h - 1), 4);
                    kit.image(4, w, h);
                    Check.same("new, all 0", kit.lanes(4, w - 1, h - 1), 0);
                }
                kit.image(4, 1, 1);
                kit.dot(4, 0, 0, 9);
                Check.same("scale to " + w + " by " + h, kit.scale(4, w, h), good ? 1 : -4);
                Check.same("it is that size", good ? thrown(kit, 4, w - 1, h - 1) + thrown(kit, 4, w, h - 1) : 1, 1);
                if (good) {
                    Check.same("of one pixel all are as it", kit.lanes(4, w - 1, h - 1) + kit.lanes(4, 0, 0), 18);
                }
            }
        }
        ScreenKit kit = new ScreenKit(16, 16);
        for (int n = 1; n <= 4; n++) {
            kit.image(n, n + 1, n);
            kit.dot(n, n, n - 1, n);
        }
        for (int n = 1; n <= 4; n++) {
            Check.same("each its own", kit.lanes(n, n, n - 1), n);
        }
    }

    private static int times(int x, int y) {
        return (x * y + 127) / 255;
    }

    private static int lane(int s, int d, int a, int b, int kind) {
        switch (kind) {
            case 0: return 0;
            case 1: return s;
            case 2: return s + times(d, 255 - a);
            case 3: return times(s, b);
            case 4: return times(s, 255 - b);
            case 5: return times(s, b) + times(d, 255 - a);
            case 6: return times(s, 255 - b) + times(d, 255 - a);
            case 7: return s + d;
            case 8: return times(s, d);
            case 9: return s + d - times(s, d);
            case 10: return s < d ? s : d;
            default: return s > d ? s : d;
        }
    }

    /** x * y of lanes is (x * y + 127) / 255, whole part; sums are held to 255. */
    private static void products() {
        ScreenKit kit = new ScreenKit(16, 16);
        kit.image(1, 32, 32);
        kit.image(2, 32, 32);
        for (int base = 0; base < 65536; base += 1024) {
            for (int i = 0; i < 1024; i++) {
                int s = base + i >> 8;
                int d = base + i & 255;
                kit.dot(1, i % 32, i / 32, d << 24 | d);
                kit.dot(2, i % 32, i / 32, s << 24 | s);
            }
            kit.blend(1, 2, 8);
            for (int i = 0; i < 1024; i++) {
                int due = ((base + i >> 8) * (base + i & 255) + 127) / 255;
                if (kit.lanes(1, i % 32, i / 32) != (due << 24 | due)) {
                    Check.same("product of " + (base + i >> 8) + " and " + (base + i & 255), kit.lanes(1, i % 32, i / 32), due << 24 | due);
                }
            }
        }
        int[][] edges = {{128, 1, 1}, {127, 1, 0}, {1, 1, 0}, {255, 255, 255}, {254, 255, 254}, {255, 1, 1}, {0, 255, 0}, {2, 64, 1}, {2, 63, 0}};
        for (int[] e : edges) {
            kit.dot(1, 0, 0, e[0]);
            kit.dot(2, 0, 0, e[1]);
            kit.blend(1, 2, 8);
            Check.same(e[0] + " * " + e[1], kit.lanes(1, 0, 0), e[2]);
        }
    }

    /** BLEND 0 .. 11, lane by lane. */
    private static void blends() {
        int[] some = {0, 1, 64, 127, 128, 254, 255};
        ScreenKit kit = new ScreenKit(16, 16);
        for (int kind = 0; kind <= 11; kind++) {
            for (int i = 0; i < 7 * 7 * 7 * 7; i++) {
                int a = some[i % 7];
                int b = some[i / 7 % 7];
                int s = some[i / 49 % 7];
                int d = some[i / 343];
                kit.dot(1, 0, 0, b << 24 | d << 8 | s);
                kit.dot(2, 0, 0, a << 24 | s << 8 | d);
                Check.same("blend", kit.blend(1, 2, kind), 1);
                int due = Math.min(255, lane(a, b, a, b, kind)) << 24 | Math.min(255, lane(0, 0, a, b, kind)) << 16
                    | Math.min(255, lane(s, d, a, b, kind)) << 8 | Math.min(255, lane(d, s, a, b, kind));
                Check.same("blend " + kind + " of " + a + " " + s + " onto " + b + " " + d, kit.lanes(1, 0, 0), due);
            }
        }
        int[][] calls = {{0, 1, 1, -4}, {5, 1, 1, -4}, {1, 0, 1, -4}, {1, 5, 1, -4}, {1, 2, -1, -4}, {1, 2, 12, -4}, {1, 2, 0, 1}, {4, 4, 11, 1}};
        for (int[] c : calls) {
            Check.same("blend " + c[0] + ", " + c[1] + ", " + c[2], kit.blend(c[0], c[1], c[2]), c[3]);
        }
        kit.image(1, 3, 2);
        int[][] sizes = {{3, 2, 1}, {3, 1, -5}, {3, 3, -5}, {2, 2, -5}, {4, 2, -5}, {2, 3, -5}};
        for (int[] s : sizes) {
            kit.image(2, s[0], s[1]);
            Check.same("3 by 2 and " + s[0] + " by " + s[1], kit.blend(1, 2, 1), s[2]);
            Check.same("the other way", kit.blend(2, 1, 1), s[2]);
        }
        kit.image(3, 32, 32);
        for (int i = 0; i < 1024; i++) {
            kit.dot(3, i % 32, i / 32, i % 100);
        }
        kit.blend(3, 3, 7);
        for (int i = 0; i < 1024; i++) {
            Check.same("each pixel once, " + i, kit.lanes(3, i % 32, i / 32), 2 * (i % 100));
        }
        kit.image(4, 2, 2);
        kit.dot(4, 0, 0, 0x10203040);
        kit.dot(4, 1, 1, 0x50607080);
        kit.blend(4, 4, 6);
        Check.same("onto itself", kit.lanes(4, 0, 0), times(0x10, 239) * 2 << 24 | times(0x20, 239) * 2 << 16 | times(0x30, 239) * 2 << 8
            | times(0x40, 239) * 2);
    }

    private static void scaled(int[] lanes, int w, int h, int toW, int toH, int... due) {
        ScreenKit kit = new ScreenKit(16, 16);
        kit.image(1, w, h);
        for (int i = 0; i < lanes.length; i++) {
            kit.dot(1, i % w, i / w, lanes[i] << 24 | lanes[i]);
        }
        kit.scale(1, toW, toH);
        for (int i = 0; i < due.length; i++) {
            Check.same("pixel " + i + " of " + w + " by " + h + " to " + toW + " by " + toH, kit.lanes(1, i % toW, i / toW), due[i] << 24 | due[i]);
        }
    }

    /** SCALED: the old pixels' lanes times their shares, together, half a unit more, whole part. */
    private static void scales() {
        scaled(new int[] {0, 1}, 2, 1, 1, 1, 1);
        scaled(new int[] {0, 0, 1}, 3, 1, 1, 1, 0);
        scaled(new int[] {0, 1, 1}, 3, 1, 1, 1, 1);
        scaled(new int[] {0, 0, 0, 1}, 2, 2, 1, 1, 0);
        scaled(new int[] {0, 0, 1, 1}, 2, 2, 1, 1, 1);
        scaled(new int[] {255, 255, 255, 255}, 2, 2, 1, 1, 255);
        scaled(new int[] {255, 255, 255, 254}, 2, 2, 1, 1, 255);
        scaled(new int[] {255, 255, 254, 254}, 2, 2, 1, 1, 255);
        scaled(new int[] {255, 254, 254, 254}, 2, 2, 1, 1, 254);
        scaled(new int[] {7}, 1, 1, 3, 2, 7, 7, 7, 7, 7, 7);
        scaled(new int[] {0, 90}, 2, 1, 3, 1, 0, 45, 90);
        scaled(new int[] {0, 91}, 2, 1, 3, 1, 0, 46, 91);
        scaled(new int[] {0, 90, 180}, 3, 1, 2, 1, 30, 150);
        scaled(new int[] {0, 90, 180}, 1, 3, 1, 2, 30, 150);
        scaled(new int[] {10, 20, 30, 40}, 2, 2, 2, 2, 10, 20, 30, 40);
        scaled(new int[] {10, 20, 30, 40}, 2, 2, 4, 2, 10, 10, 20, 20, 30, 30, 40, 40);
        scaled(new int[] {10, 20, 30, 40}, 2, 2, 2, 4, 10, 20, 10, 20, 30, 40, 30, 40);
        scaled(new int[] {10, 20, 30, 40}, 2, 2, 1, 2, 15, 35);
        scaled(new int[] {10, 20, 30, 40}, 4, 1, 1, 1, 25);
        int[] all = new int[1024];
        for (int i = 0; i < 1024; i++) {
            all[i] = i * 7 % 256;
        }
        scaled(all, 32, 32, 32, 32, all);
        int[] rows = new int[32];
        int sum = 0;
        for (int y = 0; y < 32; y++) {
            for (int x = 0; x < 32; x++) {
                rows[y] += all[32 * y + x];
            }
            sum += rows[y];
            rows[y] = (2 * rows[y] + 32) / 64;
        }
        scaled(all, 32, 32, 1, 32, rows);
        scaled(all, 32, 32, 1, 1, (2 * sum + 1024) / 2048);
        int[] ones = new int[1024];
        java.util.Arrays.fill(ones, 255);
        scaled(ones, 32, 32, 31, 31, java.util.Arrays.copyOf(ones, 961));
        scaled(java.util.Arrays.copyOf(ones, 961), 31, 31, 32, 32, ones);
        ScreenKit kit = new ScreenKit(16, 16);
        Check.same("no image", kit.scale(0, 1, 1) + kit.scale(5, 1, 1), -8);
        kit.image(1, 2, 1);
        kit.dot(1, 0, 0, 0xff008001);
        kit.dot(1, 1, 0, 0x00ff0102);
        kit.scale(1, 1, 1);
        Check.same("each lane", kit.lanes(1, 0, 0), 0x80804102);
    }

    public static void main(String[] args) {
        first();
        sizes();
        products();
        blends();
        scales();
        Check.end("EdgeImageTest");
    }
}
