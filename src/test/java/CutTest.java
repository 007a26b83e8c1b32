/** Promises 4 to 7: list, best, bestAt, cut. */
public final class CutTest {
    private static final Check CHECK = new Check();

    public static void main(String[] args) {
        promise4();
        promise5();
        promise5FewerBlanks();
        promise6();
        promise6FirstOfLikeOnes();
        promise6AfterTheCut();
        promise7();
        promise7FourHundred();
        CHECK.finish();
    }

    private static void promise4() {
        ButtonWorks works = new ButtonWorks();
        CHECK.due("0 at first", 0, works.list(3, 9, 999));
        CHECK.due("what it was", 999, works.list(3, 9, 0));
        CHECK.due("what it was", 0, works.list(3, 9, 0));
        CHECK.due("each has its own", 0, works.list(1, 1, 7));
        CHECK.due("each has its own", 0, works.list(2, 1, 8));
        CHECK.due("each has its own", 0, works.list(1, 2, 9));
        CHECK.due("each has its own", 7, works.list(1, 1, 7));
        CHECK.badArgument("size 0", () -> works.list(0, 1, 1));
        CHECK.badArgument("size 4", () -> works.list(4, 1, 1));
        CHECK.badArgument("size -1", () -> works.list(-1, 1, 1));
        CHECK.badArgument("thickness 0", () -> works.list(1, 0, 1));
        CHECK.badArgument("thickness 10", () -> works.list(1, 10, 1));
        CHECK.badArgument("worth -1", () -> works.list(1, 1, -1));
        CHECK.badArgument("worth 1000", () -> works.list(1, 1, 1000));
        CHECK.badArgument("all wrong", () -> works.list(Integer.MAX_VALUE, Integer.MIN_VALUE, Integer.MAX_VALUE));
        CHECK.due("nothing was changed by those", 7, works.list(1, 1, 7));
    }

    private static void promise5() {
        ButtonWorks works = new ButtonWorks();
        works.shell(3, 3, 0, 0x555, 0x535, 0x555, 0, 0, 0);
        CHECK.due("without worths", 0, works.best(0, 0));
        CHECK.due("no blanks", 0, works.best(0, 1));
        works.list(3, 5, 900);
        CHECK.due("its thickness is the least", 0, works.best(0, 0));
        works.list(3, 3, 90);
        CHECK.due("three by three", 90, works.best(0, 0));
        CHECK.due("one blank", 1, works.best(0, 1));
        works.list(1, 5, 12);
        CHECK.due("eight small ones", 96, works.best(0, 0));
        CHECK.due("eight blanks", 8, works.best(0, 1));
        works.list(2, 3, 60);
        CHECK.due("one of two and five small ones", 120, works.best(0, 0));
        CHECK.due("six blanks", 6, works.best(0, 1));
        CHECK.due("the shell is not cut by that", 0, works.shellOf(0, 3));

        works.shell(3, 3, 0, 0x333, 0x303, 0x333, 0, 0, 0);
        CHECK.due("a flaw in the middle", 0, works.best(1, 0));
        Works.even(works, 6, 0, 9);
        works.list(1, 9, 999);
        CHECK.due("the greatest worth that there is", 36 * 999, works.best(2, 0));
        CHECK.due("the most blanks that there are", 36, works.best(2, 1));

        CHECK.noSuch("what 2", () -> works.best(0, 2));
        CHECK.noSuch("what -1", () -> works.best(0, -1));
        CHECK.noSuch("shell 3", () -> works.best(3, 0));
        CHECK.noSuch("shell -1", () -> works.best(-1, 0));
    }

    private static void promise5FewerBlanks() {
        ButtonWorks works = new ButtonWorks();
        Works.even(works, 6, 0, 1);
        works.list(1, 1, 1);
        works.list(2, 1, 4);
        CHECK.due("worth", 36, works.best(0, 0));
        CHECK.due("nine of two", 9, works.best(0, 1));
        works.list(3, 1, 9);
        CHECK.due("worth", 36, works.best(0, 0));
        CHECK.due("four of three", 4, works.best(0, 1));
        works.list(1, 1, 0);
        works.list(2, 1, 0);
        works.list(3, 1, 0);
        CHECK.due("a blank of no worth is not cut", 0, works.best(0, 1));
    }

    private static void promise6() {
        ButtonWorks works = new ButtonWorks();
        works.shell(2, 3, 0, 0x222, 0x022, 0, 0, 0, 0);
        works.list(2, 2, 10);
        works.list(1, 2, 1);
        int[] due = {2, 0, 1, 0, 0, 0};
        sizes("a blank of two and a small one", works, 0, due);
        CHECK.noSuch("place 6", () -> works.bestAt(0, 6));
        CHECK.noSuch("place -1", () -> works.bestAt(0, -1));
        CHECK.noSuch("place 2147483647", () -> works.bestAt(0, Integer.MAX_VALUE));
        CHECK.noSuch("shell 1", () -> works.bestAt(1, 0));
        CHECK.noSuch("shell -1", () -> works.bestAt(-1, 0));
        works.list(2, 2, 4);
        sizes("fewer blanks of like worth", works, 0, due);
        works.list(2, 2, 3);
        sizes("small ones", works, 0, new int[] {1, 1, 1, 1, 1, 0});
    }

    private static void promise6FirstOfLikeOnes() {
        ButtonWorks works = new ButtonWorks();
        works.list(2, 1, 10);
        works.shell(3, 3, 0, 0x111, 0x111, 0x111, 0, 0, 0);
        sizes("the first place of four", works, 0, new int[] {2, 0, 0, 0, 0, 0, 0, 0, 0});
        works.list(1, 1, 10);
        works.list(2, 1, 20);
        works.shell(1, 2, 0, 0x11, 0, 0, 0, 0, 0);
        sizes("small ones alone", works, 1, new int[] {1, 1});

        ButtonWorks other = new ButtonWorks();
        other.shell(4, 4, 0, 0x1111, 0x1111, 0x1111, 0x1110, 0, 0);
        other.list(2, 1, 5);
        other.list(3, 1, 15);
        sizes("three of two against one of three, fewer blanks", other, 0,
                new int[] {3, 0, 0, 0, 0, 0, 0, 0, 0, 0, 0, 0, 0, 0, 0, 0});
        other.list(1, 1, 15);
        other.shell(2, 2, 0, 0x11, 0x01, 0, 0, 0, 0);
        sizes("small ones where no greater fits", other, 1, new int[] {1, 1, 1, 0});

        ButtonWorks third = new ButtonWorks();
        third.shell(3, 4, 0, 0x1111, 0x1111, 0x1110, 0, 0, 0);
        third.list(2, 1, 5);
        third.list(3, 1, 10);
        third.list(1, 1, 1);
        // One of three and two small ones are worth but 12.
        CHECK.due("worth", 13, third.best(0, 0));
        CHECK.due("blanks", 5, third.best(0, 1));
        sizes("greater number ahead", third, 0, new int[] {2, 0, 2, 0, 0, 0, 0, 0, 0, 1, 1, 1});
    }

    private static void promise6AfterTheCut() {
        ButtonWorks works = new ButtonWorks();
        Works.smallButtons(works, 1, 0, 4);
        works.list(1, 4, 0);
        CHECK.due("the cut that it would have now", 0, works.best(0, 0));
        CHECK.due("told for a place now", 0, works.bestAt(0, 0));
        works.list(1, 4, 3);
        CHECK.due("the cut that it would have now", 18, works.best(0, 0));
        CHECK.due("its buttons stay", 6, works.count(1));
    }

    private static void promise7() {
        ButtonWorks works = new ButtonWorks();
        works.shell(3, 5, 6, 0x77777, 0x78777, 0x00090, 0, 0, 0);
        works.list(1, 9, 1);
        works.list(2, 7, 100);
        works.list(1, 7, 10);
        CHECK.due("cut", 5, works.cut(0));
        int[][] due = {{2, 7, 0}, {2, 7, 2}, {1, 7, 4}, {1, 7, 9}, {1, 9, 11}};
        for (int i = 0; i < due.length; i++) {
            CHECK.due("size of " + i, due[i][0], works.button(i, 0));
            CHECK.due("thickness of " + i, due[i][1], works.button(i, 1));
            CHECK.due("place of " + i, due[i][2], works.button(i, 8));
        }
        CHECK.due("a shell is cut once", -1, works.cut(0));
        CHECK.due("nothing changed", 5, works.count(1));
        CHECK.noSuch("shell 1", () -> works.cut(1));
        CHECK.noSuch("shell -1", () -> works.cut(-1));
        works.shell(1, 1, 0, 0, 0, 0, 0, 0, 0);
        CHECK.due("a cut without buttons", 0, works.cut(1));
        CHECK.due("is a cut", 1, works.shellOf(1, 3));
        CHECK.due("and is the only one", -1, works.cut(1));
    }

    private static void promise7FourHundred() {
        ButtonWorks works = new ButtonWorks();
        works.list(1, 1, 1);
        for (int i = 0; i < 11; i++) {
            int shell = Works.even(works, 6, 0, 1);
            CHECK.due("36 buttons", 36, works.cut(shell));
        }
        works.shell(1, 5, 0, 0x11111, 0, 0, 0, 0, 0);
        CHECK.due("401 buttons", -1, works.cut(11));
        CHECK.due("it is not cut", 0, works.shellOf(11, 3));
        CHECK.due("no buttons", 396, works.count(1));
        works.shell(1, 4, 0, 0x1111, 0, 0, 0, 0, 0);
        CHECK.due("400 buttons", 4, works.cut(12));
        CHECK.due("count(1)", 400, works.count(1));
        CHECK.due("the last button", 3, works.button(399, 8));
        CHECK.noSuch("button 400", () -> works.button(400, 0));
        works.shell(1, 1, 0, 1, 0, 0, 0, 0, 0);
        CHECK.due("one more", -1, works.cut(13));
        works.list(1, 1, 0);
        CHECK.due("none more", 0, works.cut(13));
        CHECK.due("none more", 0, works.cut(11));
    }

    private static void sizes(String name, ButtonWorks works, int shell, int[] due) {
        for (int place = 0; place < due.length; place++) {
            CHECK.due(name + ", place " + place, due[place], works.bestAt(shell, place));
        }
    }
}
