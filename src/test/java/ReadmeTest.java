/** README.md's example: its answers. */
public final class ReadmeTest {
    private ReadmeTest() {
    }

    public static void main(String[] args) {
        ScreenKit kit = new ScreenKit(64, 48);
        Check.tell(kit, "col{label\"hi\" button#go(do=1+5)\"go\" slider(bind=1)}");
        Check.same("form", kit.form(), 4);
        Check.tell(kit, "col{pad:2;gap:1;} #go:hover{paper:ffccddee;line:1;}");
        Check.same("style", kit.style(), 2);
        Check.same("paint", kit.paint(), 3072);
        Check.same("point", kit.point(4, 12), 2);
        Check.same("down", kit.down(), 2);
        Check.same("up", kit.up(), 2);
        Check.same("cell", kit.cell(1), 5);
        Check.same("paint behind a click", kit.paint(), 900);
        Check.same("pixel", kit.pixel(4, 10), 0xffccddee);
        Check.tell(kit, "label(cols=2)");
        Check.same("a fault", kit.form(), -7);
        Check.same("the form as it was", kit.count(1), 4);
        Check.same("no such widget", kit.able(99, true), -2);
        Check.end("ReadmeTest");
    }
}
