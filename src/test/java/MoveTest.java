/** Promises 9, 23, 24: moves of number properties, tick by tick. */
public final class MoveTest {
    public static void main(String[] args) {
        ScreenKit kit = new ScreenKit(60, 40);
        Check.form(kit, "row#a{gap gap gap}");
        Check.style(kit, "gap{pad:3;wide:10;}row{gap:9;}");
        Check.same("no widget", kit.move(4, 4, 1, 1) + kit.move(-1, 99, 1, 0), -4);
        int[] wrong = {-1, 0, 2, 9, 10, 11, 12, 13};
        for (int p : wrong) {
            Check.same("property " + p, kit.move(1, p, 1, 1), -4);
        }
        Check.same("0 ticks", kit.move(1, 4, 1, 0), -4);
        Check.same("1001 ticks", kit.move(1, 4, 1, 1001), -4);
        Check.same("0 ticks go by", kit.tick(0), -4);
        Check.same("1001 go by", kit.tick(1001), -4);
        Check.same("none under way", kit.count(4), 0);

        Check.same("from 3 to 9", kit.move(1, 4, 100, 4), 1);
        Check.same("under way", kit.count(4), 1);
        Check.same("at tick 0", kit.styled(1, 4) * 10 - kit.ruleOf(1, 4), 31);
        Check.same("others are by rules", kit.ruleOf(2, 4) + 10 * kit.ruleOf(1, 6), 10);
        int[] up = {4, 6, 7, 9};
        for (int k = 0; k < 4; k++) {
            Check.same("ended", kit.tick(1), k == 3 ? 1 : 0);
            Check.same("at tick " + (k + 1), kit.styled(1, 4), up[k]);
        }
        Check.same("none under way any more", kit.count(4), 0);
        Check.same("ticks", kit.count(10), 4);
        Check.same("it stays", kit.tick(1000) * 100 + kit.styled(1, 4) * 10 - kit.ruleOf(1, 4), 91);
        Check.style(kit, "gap{pad:1;wide:10;}row{gap:9;}");
        Check.same("ahead of all rules", kit.styled(1, 4), 9);
        Check.same("to below 0", kit.move(1, 4, -5, 2), 1);
        kit.tick(1);
        Check.same("from what it is, towards 0", kit.styled(1, 4), 5);
        Check.same("the newer one alone", kit.move(1, 4, 9, 2), 1);
        Check.same("one under way", kit.count(4), 1);
        kit.tick(1);
        Check.same("from there", kit.styled(1, 4), 7);
        Check.same("ends", kit.tick(50), 1);
        Check.same("to", kit.styled(1, 4), 9);

        int[] most = {3, 9, 9, 96, 64, 9};
        for (int p = 3; p <= 8; p++) {
            Check.same("a move of " + p, kit.move(2, p, Integer.MAX_VALUE, 1000), 1);
        }
        Check.same("one more", kit.move(3, 3, 1, 1000) + kit.move(3, 4, 1, 999), 2);
        Check.same("when there are 8", kit.move(3, 5, 1, 1), -1);
        Check.same("eight", kit.count(4), 8);
        Check.same("not a wrong one", kit.move(3, 9, 1, 1) + kit.move(9, 5, 1, 1), -6);
        Check.same("one of them anew", kit.move(3, 4, 2, 998), 1);
        Check.same("half way", kit.tick(500), 0);
        Check.same("wide", kit.styled(2, 6), 10 + 43);
        Check.same("its place", kit.widget(2, 6), 53);
        Check.same("ended", kit.tick(498), 1);
        Check.same("the others", kit.tick(2), 7);
        for (int p = 3; p <= 8; p++) {
            Check.same("to its range", kit.styled(2, p), most[p - 3]);
        }
        Check.same("no room", kit.move(3, 5, 1, 1), 1);
        Check.form(kit, "row{gap gap gap}");
        Check.same("till form()", kit.count(4) + kit.styled(2, 3), 0);
        kit.move(1, 4, 9, 5);
        kit.move(2, 4, 9, 5);
        kit.remove(1);
        Check.same("gone with its widget", kit.count(4), 1);
        Check.tell(kit, "gap").insert(0, 0);
        kit.tick(5);
        Check.same("keeps it", kit.styled(2, 4) * 10 + kit.styled(1, 4), 91);
        Check.end("MoveTest");
    }
}
