/** Points 2 and 3 of the document and promises 4, 8, 9: rules, weights, what fits, states; edge by edge. */
public final class EdgeStyleTest {
    private static final int PAD = 4;

    private static String times(String text, int n) {
        return text.repeat(n);
    }

    private static void fault(String text, int place) {
        Check.same("rules " + text, Check.style(text), -1 - place);
    }

    private static void good(String text, int selectors) {
        Check.same("rules " + text, Check.style(text), selectors);
    }

    private static int pad(String form, String style, int w) {
        return Check.made(60, 60, form, style).styled(w, PAD);
    }

    /** RULES, any number; selectors with commas between, { , declarations, perhaps none, } . */
    private static void rules() {
        good("", 0);
        good(" \n", 0);
        good("row{}", 1);
        good("row{}row{}", 2);
        good("row,row{}", 2);
        good(" row , row { } row { } ", 3);
        good("row{pad:1;}", 1);
        good("row\n{\npad\n:\n1\n;\n}\n", 1);
        fault("{}", 0);
        fault("}", 0);
        fault(",row{}", 0);
        fault("row,,row{}", 4);
        fault("row,{}", 4);
        fault("row;{}", 3);
        fault("row{}}", 5);
        fault("row{}{}", 5);
        fault("row{},row{}", 5);
        fault("row{{}}", 4);
        fault("row{;}", 4);
        fault("row{pad:1;;}", 10);
        fault("row{pad:1}", 9);
        fault("row{pad:1,gap:1;}", 9);
        fault("row{pad=1;}", 7);
        fault("row{pad:1;", 10);
    }

    /** A selector: 1 to 4 compounds; of a fifth its first sign is told, behind a > , too. */
    private static void compounds() {
        good("*{}", 1);
        good("* *{}", 1);
        good("* * * *{}", 1);
        good("*>*>*>*{}", 1);
        good("* > * >* > *{}", 1);
        fault("* * * * *{}", 8);
        fault("* * * *  *{}", 9);
        fault("* * * *>*{}", 8);
        fault("* * * * > *{}", 10);
        fault("* * * *>{}", 8);
        fault("* * * *>", 8);
        fault("* * * * row{}", 8);
        fault("* * * * .a{}", 8);
        fault("* * * * foo{}", 8);
        fault("* * * * abcdefghij{}", 8);
        fault("* * * * ]{}", 8);
        fault("* * * * ;", 8);
        good("* * * * ,*{}", 2);
        good("* * * *\n{}", 1);
        fault(">*{}", 0);
        fault("*>>*{}", 2);
        fault("*> >*{}", 3);
        fault("*>{}", 2);
        fault("*>,*{}", 2);
        fault("*,>*{}", 2);
    }

    /** A compound: a kind's word or * , or nothing, and at most 4 of #NAME, .CLASS, :STATE; not nothing at all. */
    private static void marks() {
        good("row#a.b:off.c{}", 1);
        fault("row#a.b:off.c.d{}", 13);
        fault("row#a.b:off.c#d{}", 13);
        fault("row#a.b:off.c:off{}", 13);
        good(".a.a.a.a{}", 1);
        fault(".a.a.a.a.a{}", 8);
        good("*.a.a.a.a{}", 1);
        fault("*.a.a.a.a.a{}", 9);
        good("#a#a#a#a{}", 1);
        good("#a{}", 1);
        good(".a{}", 1);
        good("*{}", 1);
        good("gap{}", 1);
        good("*#a{}", 1);
        fault("**{}", 1);
        fault("*row{}", 1);
        fault("row*{}", 3);
        fault("rowrow{}", 0);
        fault("row#{}", 4);
        fault("row# a{}", 4);
        fault("row#a row.{}", 10);
        fault("row. a{}", 4);
        fault("row: off{}", 4);
        fault("row .a,row . a{}", 12);
        String[] states = {"hover", "press", "focus", "check", "off"};
        for (String s : states) {
            good(":" + s + "{}", 1);
            fault(":" + s + "x{}", 1);
            fault(":" + s.substring(1) + "{}", 1);
        }
        fault(":row{}", 1);
        fault(":{}", 1);
        fault(":hoverhover{}", 9);
    }

    /** At most 40 selectors in all: the 41st's first sign. */
    private static void forty() {
        good(times("*,", 38) + "*{}", 39);
        good(times("*,", 39) + "*{}", 40);
        good(times("*{}", 40), 40);
        good(times("*,*{}", 20), 40);
        fault(times("*,", 40) + "*{}", 80);
        fault(times("*,", 40) + "{}", 80);
        fault(times("*,", 40) + "abcdefghij{}", 80);
        fault(times("*{}", 40) + "*{}", 120);
        fault(times("*{}", 40) + " foo", 121);
        fault(times("*,*{}", 20) + "row{", 100);
    }

    /** 8 declarations a rule: the 9th's first sign. */
    private static void eight() {
        good("*{" + times("pad:1;", 7) + "}", 1);
        good("*{" + times("pad:1;", 8) + "}", 1);
        good("*{" + times("pad:1;", 8) + "}*{" + times("pad:1;", 8) + "}", 2);
        fault("*{" + times("pad:1;", 9) + "}", 2 + 48);
        fault("*{" + times("gap:1;", 9) + "}", 2 + 48);
        fault("*{" + times("gap:1;", 8) + " row{}", 2 + 49);
        fault("*{" + times("gap:1;", 8) + "abcdefghij:1;}", 2 + 48);
        fault("*{}*{" + times("gap:1;", 8) + "gap:1;}", 3 + 2 + 48);
        fault("*{" + times("gap:1;", 8), 2 + 48);
    }

    private static void range(String property, int most, int number) {
        String head = "*{" + property + ":";
        for (int v = 0; v <= most; v++) {
            ScreenKit kit = Check.made(96, 64, "gap", head + v + ";}");
            Check.same(property + " " + v, kit.styled(0, number), v);
            Check.same("its rule", kit.ruleOf(0, number), 0);
        }
        fault(head + (most + 1) + ";}", head.length());
        fault(head + "-1;}", head.length());
        fault(head + "9999999;}", head.length());
        fault(head + "99999999;}", head.length() + 7);
        fault(head + ";}", head.length());
        fault(head + "0 0;}", head.length() + 2);
    }

    /** PROPERTIES and their ranges. */
    private static void ranges() {
        range("line", 3, 3);
        range("pad", 9, 4);
        range("gap", 9, 5);
        range("wide", 96, 6);
        range("tall", 64, 7);
        range("grow", 9, 8);
        range("align", 3, 9);
        range("hide", 1, 10);
        range("dir", 1, 11);
        range("shape", 8, 12);
        String[] none = {"lines", "pads", "in", "", "colour", "ink1", "row"};
        for (String p : none) {
            fault("*{" + p + ":1;}", 2);
        }
    }

    /** Colours: 8 digits 0 .. 9, a .. f. */
    private static void colours() {
        String[] names = {"ink", "paper", "edge"};
        int[] first = {0xff000000, 0, 0};
        for (int p = 0; p < 3; p++) {
            String head = "*{" + names[p] + ":";
            int[] values = {0, 1, 0xffffffff, 0x80000000, 0x7fffffff, 0x09af90fa, 0xabcdef01};
            for (int v : values) {
                String digits = String.format("%08x", v);
                Check.same(names[p] + " " + digits, Check.made(16, 16, "gap", head + digits + ";}").styled(0, p), v);
            }
            Check.same("at first", Check.made(16, 16, "gap", "").styled(0, p), first[p]);
            int at = head.length();
            fault(head + "0000000;}", at + 7);
            fault(head + ";}", at);
            fault(head + "000000000;}", at + 8);
            String wrong = "/:`gAFG -";
            for (int i = 0; i < wrong.length(); i++) {
                fault(head + wrong.charAt(i) + "0000000;}", at + (wrong.charAt(i) == ' ' ? 8 : 0));
                fault(head + "0000000" + wrong.charAt(i) + ";}", at + 7);
            }
        }
    }

    /** The rules are these alone; behind a fault they are as they were. */
    private static void alone() {
        ScreenKit kit = Check.made(40, 40, "col{row{gap}}", "gap{pad:1;}row{pad:2;}");
        for (int n = 0; n < 3; n++) {
            Check.style(kit, "row{pad:3;}");
            Check.same("one selector", kit.count(2) * 10 + kit.count(3), 11);
            Check.same("the other is gone", kit.styled(2, PAD) * 10 + kit.styled(1, PAD), 3);
            Check.style(kit, "*{pad:5;}gap{pad:1;}row{pad:2;}");
            Check.same("three", kit.count(2) * 10 + kit.count(3), 33);
            Check.same("weights begin anew", kit.styled(2, PAD) * 100 + kit.styled(1, PAD) * 10 + kit.styled(0, PAD), 125);
            Check.style(kit, "row row{pad:9;}row{pad:3;}*{pad:4;}");
            Check.same("other weights", kit.styled(2, PAD) * 100 + kit.styled(1, PAD) * 10 + kit.styled(0, PAD), 434);
        }
        Check.style(kit, "");
        Check.same("none", kit.count(2) + kit.count(3) + kit.styled(1, PAD), 0);
    }

    /** As much as there may be: 40 selectors of 4 compounds of 4 marks, 40 rules of 8 declarations. */
    private static void most() {
        String compound = ".a.a.a.a";
        String selector = String.join(" ", compound, compound, compound, compound);
        ScreenKit kit = Check.made(60, 60, "col.a{col.a{col.a{gap.a gap.b}}}", "");
        Check.same("forty of four of four", Check.style(kit, times(selector + ",", 39) + selector + "{pad:7;}"), 40);
        Check.same("they fit", kit.styled(3, PAD) * 10 + kit.styled(4, PAD), 70);
        Check.same("and not with three", kit.styled(2, PAD), 0);
        Check.same("the last of them alone", Check.style(kit, times(".b " + selector.substring(9) + ",", 39) + selector
            + "{pad:7;}"), 40);
        Check.same("it fits", kit.styled(3, PAD) * 10 + kit.styled(4, PAD), 70);
        Check.same("forty rules of eight", Check.style(kit, times("*{" + times("pad:1;", 8) + "}", 39) + "*{"
            + times("pad:1;", 7) + "pad:2;}"), 40);
        Check.same("declarations", kit.count(3), 320);
        Check.same("the last one counts", kit.styled(0, PAD) * 1000 + kit.ruleOf(0, PAD), 2319);
        Check.same("fewer again", Check.style(kit, "gap{pad:1;}"), 1);
        Check.same("none left of them", kit.styled(0, PAD) * 10 + kit.styled(3, PAD), 1);
    }

    /** WEIGHTS: 100 for each #, 10 for each . and :, 1 for a kind; of equal ones the later. */
    private static void weights() {
        String form = "col.a.b.c{row.a.b.c{stack.a.b.c{gap#n.a.b.c}}}";
        String ten = ".a.b.c .a.b.c .a.b .a.b";
        String nine = ".a.b.c .a.b.c .a.b .a";
        Check.same("ten of 10 are a #: the later", pad(form, "#n{pad:1;}" + ten + "{pad:2;}", 3), 2);
        Check.same("ten of 10 are a #: the later", pad(form, ten + "{pad:2;}#n{pad:1;}", 3), 1);
        Check.same("nine of 10 are less", pad(form, "#n{pad:1;}" + nine + "{pad:2;}", 3), 1);
        String kinds = "col.a.b.c row.a.b.c stack.a.b gap.a";
        Check.same("nine of 10 and four kinds are less", pad(form, "#n{pad:1;}" + kinds + "{pad:2;}", 3), 1);
        Check.same("a # and a kind are more", pad(form, "gap#n{pad:1;}" + ten + "{pad:2;}", 3), 1);
        Check.same("ten of 10 and a kind are more", pad(form, "col" + ten + "{pad:2;}#n{pad:1;}", 3), 2);
        Check.same("four kinds are less than a class", pad(form, ".a{pad:1;}col row stack gap{pad:2;}", 3), 1);
        Check.same("a class and a kind are more than a class", pad(form, "gap.a{pad:1;}.a{pad:2;}", 3), 1);
        Check.same("a class is a state", pad("gap.a(off=1)", ".a{pad:1;}:off{pad:2;}", 0), 2);
        Check.same("a state is a class", pad("gap.a(off=1)", ":off{pad:2;}.a{pad:1;}", 0), 1);
        Check.same("two # over one and much", pad(form, "#n#n{pad:1;}#n.a.b.c{pad:2;}", 3), 1);
        Check.same("* has none", pad("gap", "*{pad:1;}*{pad:2;}", 0), 2);
        Check.same("of several selectors the greatest that fits", pad("gap.a", "*,.a,#x{pad:1;}.a{pad:2;}gap{pad:3;}", 0), 2);
        Check.same("the greatest, in whatever order", pad("gap.a", ".a,*{pad:1;}gap{pad:3;}", 0), 1);
        Check.same("each property by itself", pad("gap.a", ".a{gap:1;}gap{pad:3;}", 0), 3);
        Check.same("the later of one rule", pad("gap", "gap{pad:1;pad:2;pad:3;}", 0), 3);
        ScreenKit kit = Check.made(60, 60, "gap.a", "gap{pad:1;gap:2;pad:3;}.b{pad:4;}.a{gap:5;line:1;}");
        Check.same("numbers of declarations", kit.ruleOf(0, PAD) * 100 + kit.ruleOf(0, 5) * 10 + kit.ruleOf(0, 3), 245);
        Check.same("by none", kit.ruleOf(0, 6), -1);
    }

    /** FITS: a > goes to the parent, blanks to the nearest widget around that fits and from which the rest fits. */
    private static void fits() {
        Check.same("no parent of widget 0", pad("gap", "*>gap{pad:1;}", 0), 0);
        Check.same("none around widget 0", pad("gap", "* gap{pad:1;}", 0), 0);
        Check.same("the parent", pad("row{gap}", "*>gap{pad:1;}", 1), 1);
        Check.same("not the parent's", pad("col{row{gap}}", "col>gap{pad:1;}", 2), 0);
        Check.same("one around", pad("col{row{gap}}", "col gap{pad:1;}", 2), 1);
        Check.same("not one in it", pad("col{row{gap}}", "gap col{pad:1;}", 0), 0);
        Check.same("not itself", pad("col{col}", "col col{pad:1;}", 0) * 10 + pad("col{col}", "col col{pad:1;}", 1), 1);
        Check.same("not one beside it", pad("col{row gap}", "row gap{pad:1;}", 2), 0);
        Check.same("four in a row", pad("col{row{col{gap}}}", "col>row>col>gap{pad:1;}", 3), 1);
        Check.same("four, one too high", pad("col{row{col{gap}}}", "row>col>row>gap{pad:1;}", 3), 0);
        Check.same("goes on outwards", pad("col.x{row{col{row{gap}}}}", ".x>row gap{pad:1;}", 4), 1);
        Check.same("further out the rest doesn't fit", pad("col.x{col{row{gap}}}", ".x>row gap{pad:1;}", 3), 0);
        ScreenKit kit = Check.made(40, 40, "row{row{gap}}", "row>row{pad:1;}row row{gap:1;}");
        for (int n = 0; n < 3; n++) {
            Check.same("each time it is counted", kit.styled(0, PAD) + kit.styled(0, 5), 0);
            Check.same("and in it", kit.styled(1, PAD) + kit.styled(1, 5), 2);
            kit.put(0, n);
        }
    }

    /** Without a declaration ink and dir are as the parent's, others as at first. */
    private static void handed() {
        ScreenKit kit = Check.made(60, 60, "col{row{gap}}", "col{ink:80112233;dir:1;paper:ff111111;edge:ff222222;line:1;pad:1;"
            + "gap:1;wide:9;}col{tall:9;grow:1;align:0;shape:1;}row{dir:0;}");
        int[] due = {0x80112233, 0, 0, 0, 0, 0, 0, 0, 0, 3, 0, 0, 0};
        for (int p = 0; p < 13; p++) {
            Check.same("property " + p + " of what is in it", kit.styled(2, p), due[p]);
            Check.same("by none", kit.ruleOf(2, p), -1);
        }
        Check.same("its own", kit.styled(1, 11) * 10 + kit.ruleOf(1, 11), 12);
    }

    /** HOVER, PRESS, FOCUS, CHECK, OFF. */
    private static void states() {
        ScreenKit kit = Check.made(40, 40, "tabs{row{button gap}}", "button{wide:10;}gap{wide:10;}");
        Check.same("at first", kit.widget(0, 11) + kit.widget(1, 11) + kit.widget(2, 11) + kit.widget(3, 11), 0);
        kit.point(15, 20);
        Check.same("hovered, and all around it", kit.widget(3, 11) * 100 + kit.widget(1, 11) * 10 + kit.widget(0, 11), 111);
        Check.same("not beside it", kit.widget(2, 11), 0);
        kit.point(5, 20);
        kit.down();
        Check.same("hover, press, focus", kit.widget(2, 11), 7);
        Check.same("the one at which it went down alone", kit.widget(1, 11) * 10 + kit.widget(0, 11), 11);
        kit.point(15, 20);
        Check.same("not over it", kit.widget(2, 11), 4);
        kit.point(5, 20);
        Check.same("over it again", kit.widget(2, 11), 7);
        kit.point(-1, 20);
        Check.same("beside the screen", kit.widget(2, 11), 4);
        kit.point(5, 20);
        kit.up();
        Check.same("up", kit.widget(2, 11), 5);
        kit.point(5, 3);
        kit.down();
        kit.point(15, 20);
        Check.same("over one in it", kit.widget(0, 11), 7);
        kit.up();
        kit.able(0, true);
        Check.same("off around", kit.widget(0, 11) * 1000 + kit.widget(3, 11), 17017);
        kit.able(0, false);
        kit.able(2, true);
        Check.same("off itself alone", kit.widget(2, 11) * 100 + kit.widget(1, 11), 1601);
        kit = Check.made(40, 40, "check(bind=3,off=1)", ":check{pad:1;}:off{gap:2;}:hover{line:1;}:press{line:2;}:focus{line:3;}");
        kit.put(3, 1);
        Check.same("check and off", kit.widget(0, 11), 24);
        Check.same("by their rules", kit.styled(0, PAD) * 10 + kit.styled(0, 5), 12);
        Check.same("not by others", kit.styled(0, 3), 0);
    }

    private static void thrown(ScreenKit kit, int w, int what, boolean due) {
        int n = 0;
        try {
            kit.styled(w, what);
        } catch (IllegalArgumentException e) {
            n++;
        }
        try {
            kit.ruleOf(w, what);
        } catch (IllegalArgumentException e) {
            n++;
        }
        Check.same("thrown for " + w + ", " + what, n, due ? 2 : 0);
    }

    /** styled(), ruleOf(): an exception when there is no such widget or property. */
    private static void exceptions() {
        ScreenKit kit = new ScreenKit(20, 20);
        thrown(kit, 0, 0, true);
        Check.form(kit, "row{gap}");
        thrown(kit, 0, 0, false);
        thrown(kit, 1, 12, false);
        thrown(kit, 2, 0, true);
        thrown(kit, -1, 0, true);
        thrown(kit, 0, 13, true);
        thrown(kit, 0, -1, true);
        thrown(kit, Integer.MIN_VALUE, Integer.MAX_VALUE, true);
    }

    public static void main(String[] args) {
        rules();
        compounds();
        marks();
        forty();
        eight();
        ranges();
        colours();
        alone();
        most();
        weights();
        fits();
        handed();
        states();
        exceptions();
        Check.end("EdgeStyleTest");
    }
}
