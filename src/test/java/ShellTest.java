/** Promises 1 to 3: a new object, shell, shellOf. */
public final class ShellTest {
    private static final Check CHECK = new Check();

    public static void main(String[] args) {
        promise1();
        promise2Numbers();
        promise2Wrong();
        promise2Unasked();
        promise2Thirty();
        promise3();
        CHECK.finish();
    }

    private static void promise1() {
        ButtonWorks works = new ButtonWorks();
        CHECK.due("NONE", -1, ButtonWorks.NONE);
        for (int what = 0; what <= 6; what++) {
            CHECK.due("count(" + what + ") of a new object", 0, works.count(what));
        }
        for (int machine = 0; machine < 6; machine++) {
            CHECK.due("wear at first", 0, works.machine(machine, 0));
            CHECK.due("stands at first", 100, works.machine(machine, 1));
            CHECK.due("did at first", 0, works.machine(machine, 2));
            CHECK.due("broke at first", 0, works.machine(machine, 3));
        }
        CHECK.noSuch("shellOf(0, 0)", () -> works.shellOf(0, 0));
        CHECK.noSuch("button(0, 0)", () -> works.button(0, 0));
        CHECK.noSuch("cardOf(0, 0)", () -> works.cardOf(0, 0));
        CHECK.noSuch("sent(0)", () -> works.sent(0));
        for (int size = 1; size <= 3; size++) {
            for (int thickness = 1; thickness <= 9; thickness++) {
                CHECK.due("worth at first", 0, works.list(size, thickness, 5));
            }
        }
    }

    private static void promise2Numbers() {
        ButtonWorks works = new ButtonWorks();
        CHECK.due("first", 0, works.shell(1, 1, 0, 0, 0, 0, 0, 0, 0));
        CHECK.due("second", 1, works.shell(6, 6, 9, 0x999999, 0x999999, 0x999999, 0x999999, 0x999999, 0x999999));
        CHECK.due("refused", -1, works.shell(1, 1, 10, 0, 0, 0, 0, 0, 0));
        CHECK.due("third", 2, works.shell(2, 3, 4, 0x321, 0x654, 0, 0, 0, 0));
        for (int thickness = 1; thickness <= 6; thickness++) {
            works.list(1, thickness, 1);
        }
        CHECK.due("cut", 6, works.cut(2));
        for (int i = 0; i < 6; i++) {
            CHECK.due("column 0 lowest, row by row", i + 1, works.button(i, 1));
        }
    }

    private static void promise2Wrong() {
        ButtonWorks works = new ButtonWorks();
        int[][] wrong = {{0, 1, 0}, {7, 1, 0}, {-1, 1, 0}, {1, 0, 0}, {1, 7, 0}, {1, -1, 0}, {1, 1, -1}, {1, 1, 10},
            {Integer.MIN_VALUE, 1, 0}, {1, Integer.MAX_VALUE, 0}, {1, 1, Integer.MIN_VALUE}};
        for (int[] w : wrong) {
            CHECK.due("wrong rows, columns or tint", -1, works.shell(w[0], w[1], w[2], 0, 0, 0, 0, 0, 0));
        }
        for (int column = 0; column < 6; column++) {
            int ten = 10 << (4 * column);
            CHECK.due("thickness 10", -1, works.shell(6, 6, 0, ten, 0, 0, 0, 0, 0));
            CHECK.due("thickness 10", -1, works.shell(6, 6, 0, 0, ten, 0, 0, 0, 0));
            CHECK.due("thickness 10", -1, works.shell(6, 6, 0, 0, 0, ten, 0, 0, 0));
            CHECK.due("thickness 10", -1, works.shell(6, 6, 0, 0, 0, 0, ten, 0, 0));
            CHECK.due("thickness 10", -1, works.shell(6, 6, 0, 0, 0, 0, 0, ten, 0));
            CHECK.due("thickness 10", -1, works.shell(6, 6, 0, 0, 0, 0, 0, 0, ten));
        }
        CHECK.due("thickness 15", -1, works.shell(1, 1, 0, 15, 0, 0, 0, 0, 0));
        CHECK.due("nothing was made", 0, works.count(0));
    }

    private static void promise2Unasked() {
        ButtonWorks works = new ButtonWorks();
        CHECK.due("beyond the last column", 0, works.shell(1, 2, 0, 0xFFFFFF11, 0, 0, 0, 0, 0));
        CHECK.due("beyond the last row", 1, works.shell(2, 1, 0, 1, 1, -1, -1, -1, -1));
        CHECK.due("above the sixth place", 2, works.shell(1, 6, 0, 0xAB111111, 0, 0, 0, 0, 0));
        works.list(1, 1, 1);
        CHECK.due("nothing of them is used", 2, works.best(0, 0));
        CHECK.due("nothing of them is used", 2, works.best(1, 0));
        CHECK.due("nothing of them is used", 6, works.best(2, 0));
    }

    private static void promise2Thirty() {
        ButtonWorks works = new ButtonWorks();
        for (int i = 0; i < 30; i++) {
            CHECK.due("shell " + i, i, works.shell(1, 1, 0, 1, 0, 0, 0, 0, 0));
        }
        CHECK.due("a shell more", -1, works.shell(1, 1, 0, 1, 0, 0, 0, 0, 0));
        CHECK.due("count(0)", 30, works.count(0));
        CHECK.due("the last", 1, works.shellOf(29, 0));
        CHECK.noSuch("shellOf(30, 0)", () -> works.shellOf(30, 0));
    }

    private static void promise3() {
        ButtonWorks works = new ButtonWorks();
        works.shell(2, 5, 7, 0, 0, 0, 0, 0, 0);
        CHECK.due("rows", 2, works.shellOf(0, 0));
        CHECK.due("columns", 5, works.shellOf(0, 1));
        CHECK.due("tint", 7, works.shellOf(0, 2));
        CHECK.due("not cut", 0, works.shellOf(0, 3));
        works.cut(0);
        CHECK.due("cut", 1, works.shellOf(0, 3));
        CHECK.noSuch("shellOf(0, 4)", () -> works.shellOf(0, 4));
        CHECK.noSuch("shellOf(0, -1)", () -> works.shellOf(0, -1));
        CHECK.noSuch("shellOf(1, 0)", () -> works.shellOf(1, 0));
        CHECK.noSuch("shellOf(-1, 0)", () -> works.shellOf(-1, 0));

        Works.smallButtons(works, 1, 6, 3);
        works.bleach(1, 4);
        CHECK.due("the shell itself keeps its tint", 6, works.shellOf(1, 2));
    }
}
