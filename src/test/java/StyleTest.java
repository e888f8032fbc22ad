/** Promises 8 and 9: which rule counts for a widget, by weight, place, state and what is around. */
public final class StyleTest {
    private static final int INK = 0;
    private static final int PAD = 4;
    private static final int GAP = 5;

    private static int pad(String form, String style, int w) {
        return Check.made(60, 60, form, style).styled(w, PAD);
    }

    private static void first() {
        ScreenKit kit = Check.made(60, 60, "row{gap}", "");
        int[] due = {0xff000000, 0, 0, 0, 0, 0, 0, 0, 0, 3, 0, 0, 0};
        for (int p = 0; p < due.length; p++) {
            Check.same("property " + p, kit.styled(1, p), due[p]);
            Check.same("rule of " + p, kit.ruleOf(1, p), -1);
        }
        int thrown = 0;
        int[][] wrong = {{0, 13}, {0, -1}, {2, 0}, {-1, 0}};
        for (int[] w : wrong) {
            try {
                kit.styled(w[0], w[1]);
            } catch (IllegalArgumentException e) {
                thrown++;
            }
            try {
                kit.ruleOf(w[0], w[1]);
            } catch (IllegalArgumentException e) {
                thrown++;
            }
        }
        Check.same("thrown", thrown, 8);
    }

    private static void weights() {
        Check.same("a kind over *", pad("row", "row{pad:1;}*{pad:2;}", 0), 1);
        Check.same("the later of equals", pad("row", "row{pad:1;}row{pad:2;}", 0), 2);
        Check.same("the later in a rule", pad("row", "row{pad:1;pad:3;}", 0), 3);
        Check.same("a class over a kind", pad("row.a", ".a{pad:1;}row{pad:2;}", 0), 1);
        Check.same("two kinds over one", pad("col{row}", "col row{pad:1;}row{pad:2;}", 1), 1);
        Check.same("a name over classes", pad("row#n.a.b.c", "#n{pad:1;}row.a.b.c:off{pad:2;}.a.b.c{pad:3;}", 0), 1);
        Check.same("a state as a class", pad("row.a(off=1)", ":off{pad:1;}.a{pad:2;}", 0), 2);
        Check.same("the greatest of those that fit", pad("row#n.a", "*,#n{pad:1;}.a{pad:2;}", 0), 1);
        Check.same("one that doesn't fit isn't weighed", pad("row.a", "*,#n{pad:1;}.a{pad:2;}", 0), 2);
        Check.same("the weight of all compounds", pad("col#n{row.a.b}", "#n>row{pad:1;}row.a.b{pad:2;}", 1), 1);
        Check.same("four marks", pad("row#n.a.b.c", "row#n.a.b.c{pad:1;}row#n.a.b{pad:2;}", 0), 1);
        Check.same("the same class thrice", pad("row.a.a.a", ".a.a{pad:1;}.a{pad:2;}", 0), 1);
    }

    private static void fits() {
        Check.same("a parent", pad("col{row{gap}}", "col>gap{pad:1;}", 2), 0);
        Check.same("a parent's", pad("col{row{gap}}", "col gap{pad:1;}", 2), 1);
        Check.same("blanks around >", pad("col{row{gap}}", "row > gap{pad:1;}", 2), 1);
        Check.same("no blanks around >", pad("col{row{gap}}", "row>gap{pad:1;}", 2), 1);
        Check.same("four compounds", pad("col{row{col{gap}}}", "col>row col gap{pad:1;}", 3), 1);
        Check.same("not itself", pad("gap", "gap gap{pad:1;}", 0), 0);
        String back = "col#x{row{col{row{gap}}}}";
        Check.same("goes on to one further around", pad(back, "#x>row gap{pad:1;}", 4), 1);
        Check.same("the nearest isn't enough", pad("col#x{row{stack{row{gap}}}}", "#x>row row>gap{pad:1;}", 4), 1);
        Check.same("none from which the rest fits", pad("col#x{stack{row{gap}}}", "#x>row gap{pad:1;}", 3), 0);
        Check.same("nothing but a kind", pad("col.a{gap.a}", "gap.a{pad:1;}", 0), 0);
        Check.same("one of its classes", pad("gap.a.b.c", ".c{pad:1;}", 0), 1);
        Check.same("no class but a name", pad("gap#a", ".a{pad:1;}", 0), 0);
        Check.same("no name but a class", pad("gap.a", "#a{pad:1;}", 0), 0);
        String[] kinds = {"row", "col", "grid", "stack", "flow", "scroll", "label", "button", "check", "radio", "field",
            "slider", "list", "gap", "tabs", "dialog", "tree", "table", "picture"};
        for (int k = 0; k < kinds.length; k++) {
            ScreenKit kit = Check.made(60, 60, kinds[k], "*{gap:1;}" + kinds[k] + "{gap:2;}");
            Check.same(kinds[k], kit.styled(0, GAP), 2);
            Check.same(kinds[k], kit.widget(0, 0), k);
        }
    }

    private static void handedDown() {
        String form = "col.a{row{gap gap.b}}";
        ScreenKit kit = Check.made(60, 60, form, ".a{ink:ff112233;dir:1;paper:ff445566;pad:1;align:0;}.b{ink:80000000;dir:0;}");
        Check.same("ink", kit.styled(2, INK), 0xff112233);
        Check.same("dir", kit.styled(2, 11), 1);
        Check.same("not paper", kit.styled(2, 1), 0);
        Check.same("not pad", kit.styled(2, PAD), 0);
        Check.same("not align", kit.styled(2, 9), 3);
        Check.same("own ink", kit.styled(3, INK), 0x80000000);
        Check.same("own dir", kit.styled(3, 11), 0);
        Check.same("rule of ink", kit.ruleOf(0, INK), 0);
        Check.same("rule of align", kit.ruleOf(0, 9), 4);
        Check.same("rule of own ink", kit.ruleOf(3, INK), 5);
        Check.same("by none, as handed down", kit.ruleOf(2, INK), -1);
        Check.style(kit, "gap{pad:1;}");
        Check.same("these rules alone", kit.styled(3, INK), 0xff000000);
        Check.same("declarations", kit.count(3), 1);
        Check.style(kit, "col{hide:1;}");
        Check.same("hide isn't handed down", kit.styled(1, 10), 0);
        Check.same("but hides", kit.widget(1, 10), 1);
    }

    private static void states() {
        ScreenKit kit = Check.made(60, 60, "col{check(bind=1)\"a\" button\"b\" col(off=1){button\"c\"} radio(bind=1,pick=2)}",
            "*{tall:9;}:hover{gap:1;}:press{gap:2;}:focus{grow:1;}:check{pad:1;}:off{align:1;}col:hover{gap:4;}");
        Check.same("off", kit.styled(3, 9) * 10 + kit.styled(4, 9), 11);
        Check.same("not off", kit.styled(2, 9), 3);
        Check.same("not checked", kit.styled(1, PAD), 0);
        kit.put(1, 2);
        Check.same("checked", kit.styled(1, PAD), 1);
        Check.same("a radio", kit.styled(5, PAD), 1);
        kit.put(1, 3);
        Check.same("not its pick", kit.styled(5, PAD), 0);
        Check.same("still checked", kit.styled(1, PAD), 1);
        Check.same("states", kit.widget(1, 11), 8);
        int x = kit.widget(2, 4);
        int y = kit.widget(2, 5);
        Check.same("hovered", kit.point(x, y), 2);
        Check.same("hover", kit.styled(2, GAP), 1);
        Check.same("hover around", kit.styled(0, GAP), 4);
        Check.same("states", kit.widget(0, 11), 1);
        Check.same("no hover beside", kit.styled(1, GAP), 0);
        kit.down();
        Check.same("press", kit.styled(2, GAP), 2);
        Check.same("focus", kit.styled(2, 8), 1);
        Check.same("states", kit.widget(2, 11), 7);
        kit.point(60, 60);
        Check.same("not pressed beside it", kit.widget(2, 11), 4);
        kit.point(x, kit.widget(2, 5));
        Check.same("pressed again", kit.widget(2, 11), 7);
        kit.up();
        Check.same("not pressed", kit.widget(2, 11), 5);
        kit.able(2, true);
        Check.same("off has no focus", kit.widget(2, 11), 17);
        Check.same("and no value of it", kit.styled(2, 8), 0);
    }

    public static void main(String[] args) {
        first();
        weights();
        fits();
        handedDown();
        states();
        Check.end("StyleTest");
    }
}
