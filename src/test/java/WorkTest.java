/** Promises 8 to 14: button, stands, work, works, grind, machine, bleach. */
public final class WorkTest {
    private static final Check CHECK = new Check();

    public static void main(String[] args) {
        promise8();
        promise9();
        promise10States();
        promise10Holes();
        promise10Breaks();
        promise10BreaksAtDrilling();
        promise10Wrong();
        promise11();
        promise11Wrong();
        promise12();
        promise13();
        promise14();
        promise14Untouched();
        CHECK.finish();
    }

    private static void promise8() {
        ButtonWorks works = Works.strong();
        works.shell(1, 1, 0, 0, 0, 0, 0, 0, 0);
        works.shell(2, 3, 8, 0x660, 0x664, 0, 0, 0, 0);
        works.list(2, 6, 50);
        works.list(1, 4, 5);
        works.cut(1);
        buttonDue("blank", works, 0, new int[] {2, 6, 8, 1, 0, 0, -1, -1, 1});
        buttonDue("blank", works, 1, new int[] {1, 4, 8, 1, 0, 0, -1, -1, 3});
        works.work(2, 0, 0);
        buttonDue("turned", works, 0, new int[] {2, 6, 8, 1, 1, 0, -1, -1, 1});
        works.work(5, 0, 4);
        buttonDue("drilled", works, 0, new int[] {2, 6, 8, 1, 2, 4, -1, -1, 1});
        works.stands(1, 1);
        works.work(1, 1, 0);
        buttonDue("not broken, 3 above is no multiple of 7 or 4", works, 1,
                new int[] {1, 4, 8, 1, 1, 0, -1, -1, 3});
        CHECK.noSuch("what 9", () -> works.button(0, 9));
        CHECK.noSuch("what -1", () -> works.button(0, -1));
        CHECK.noSuch("button 2", () -> works.button(2, 0));
        CHECK.noSuch("button -1", () -> works.button(-1, 0));
    }

    private static void buttonDue(String name, ButtonWorks works, int button, int[] due) {
        for (int what = 0; what < due.length; what++) {
            CHECK.due(name + ": button(" + button + ", " + what + ")", due[what], works.button(button, what));
        }
    }

    private static void promise9() {
        ButtonWorks works = new ButtonWorks();
        for (int machine = 0; machine < 6; machine++) {
            CHECK.due("at first", 100, works.stands(machine, 1 + machine));
        }
        for (int machine = 0; machine < 6; machine++) {
            CHECK.due("what it stood", 1 + machine, works.stands(machine, 10000));
            CHECK.due("what it stands", 10000, works.machine(machine, 1));
        }
        CHECK.badArgument("v 0", () -> works.stands(0, 0));
        CHECK.badArgument("v 10001", () -> works.stands(0, 10001));
        CHECK.badArgument("v -1", () -> works.stands(5, -1));
        CHECK.noSuch("machine 6", () -> works.stands(6, 1));
        CHECK.noSuch("machine -1", () -> works.stands(-1, 1));
        CHECK.noSuch("machine 6 and v 0", () -> works.stands(6, 0));
        CHECK.due("nothing changed", 10000, works.stands(0, 1));
    }

    private static void promise10States() {
        ButtonWorks works = Works.strong();
        Works.smallButtons(works, 1, 0, 5);
        for (int drill = 3; drill <= 5; drill++) {
            CHECK.due("a blank is not drilled", -1, works.work(drill, 0, 2));
        }
        for (int machine = 0; machine <= 2; machine++) {
            CHECK.due("turned", 1, works.work(machine, machine, -99));
            CHECK.due("state", 1, works.button(machine, 4));
            CHECK.due("turned once", -1, works.work(machine, machine, 2));
            CHECK.due("wear by the one", 5, works.machine(machine, 0));
        }
        for (int drill = 3; drill <= 5; drill++) {
            CHECK.due("drilled", 1, works.work(drill, drill - 3, 2));
            CHECK.due("state", 2, works.button(drill - 3, 4));
            CHECK.due("holes", 2, works.button(drill - 3, 5));
            CHECK.due("drilled once", -1, works.work(drill, drill - 3, 2));
            CHECK.due("a drilled one is not turned", -1, works.work(0, drill - 3, 2));
            CHECK.due("wear by the one", 5, works.machine(drill, 0));
        }
        Works.smallCards(works, 1, 0, 5);
        int sewn = works.onCard(0, 0);
        CHECK.due("one on a card is not turned", -1, works.work(0, sewn, 2));
        CHECK.due("one on a card is not drilled", -1, works.work(3, sewn, 2));
    }

    private static void promise10Holes() {
        ButtonWorks works = Works.strong();
        for (int size = 1; size <= 3; size++) {
            works.list(size, size, 9);
            works.shell(size, size, 0, 0x111 * size, 0x111 * size, 0x111 * size, 0, 0, 0);
            works.cut(size - 1);
        }
        works.works(0, 0, 3, 0);
        int[] wrong = {0, 1, 3, 5, -2, -4, 6, Integer.MAX_VALUE, Integer.MIN_VALUE};
        for (int button = 0; button < 3; button++) {
            CHECK.due("size", button + 1, works.button(button, 0));
            for (int holes : wrong) {
                CHECK.due("wrong holes", -1, works.work(3, button, holes));
            }
        }
        CHECK.due("4 holes of size 1", -1, works.work(3, 0, 4));
        CHECK.due("no holes", 0, works.button(0, 5));
        CHECK.due("still turned", 1, works.button(0, 4));
        CHECK.due("no wear", 0, works.machine(3, 0));
        CHECK.due("nothing done", 0, works.machine(3, 2));
        CHECK.due("2 holes of size 1", 1, works.work(3, 0, 2));
        CHECK.due("4 holes of size 2", 1, works.work(3, 1, 4));
        CHECK.due("4 holes of size 3", 1, works.work(3, 2, 4));
        CHECK.due("holes", 4, works.button(2, 5));
        CHECK.due("wear", 6, works.machine(3, 0));
    }

    private static void promise10Breaks() {
        ButtonWorks works = new ButtonWorks();
        Works.smallButtons(works, 4, 0, 5);
        works.stands(0, 10);
        CHECK.due("5 of 10", 1, works.work(0, 0, 0));
        CHECK.due("10 of 10 is not above", 1, works.work(0, 1, 0));
        CHECK.due("5 above, a multiple of 5", 0, works.work(0, 2, 0));
        CHECK.due("state", 3, works.button(2, 4));
        CHECK.due("by machine 0", 0, works.button(2, 6));
        CHECK.due("a broken one is not turned", -1, works.work(0, 2, 0));
        CHECK.due("a broken one is not drilled", -1, works.work(3, 2, 2));
        works.stands(0, 13);
        CHECK.due("7 above, a multiple of 7", 0, works.work(0, 3, 0));
        CHECK.due("wear goes on", 20, works.machine(0, 0));
        works.stands(0, 19);
        CHECK.due("6 above", 1, works.work(0, 4, 0));
        CHECK.due("11 above", 1, works.work(0, 5, 0));
        works.stands(0, 21);
        CHECK.due("14 above, a multiple of 7", 0, works.work(0, 6, 0));
        CHECK.due("19 above", 1, works.work(0, 7, 0));
        works.stands(0, 44);
        CHECK.due("1 above", 1, works.work(0, 8, 0));
        CHECK.due("did", 6, works.machine(0, 2));
        CHECK.due("broke", 3, works.machine(0, 3));
        works.grind(0);
        CHECK.due("ground anew", 1, works.work(0, 9, 0));

        ButtonWorks thin = new ButtonWorks();
        Works.smallButtons(thin, 1, 0, 1);
        thin.stands(2, 2);
        CHECK.due("thickness 1", 4 - 2, thin.works(2, 0, 4, 0));
        CHECK.due("each above is a multiple of 1", 3, thin.button(3, 4));
        CHECK.due("broken by machine 2", 2, thin.button(2, 6));
    }

    private static void promise10BreaksAtDrilling() {
        ButtonWorks works = new ButtonWorks();
        Works.smallButtons(works, 1, 4, 3);
        works.works(0, 0, 2, 0);
        works.stands(4, 3);
        CHECK.due("3 of 3", 1, works.work(4, 0, 2));
        CHECK.due("3 above", 0, works.work(4, 1, 2));
        CHECK.due("broken", 3, works.button(1, 4));
        CHECK.due("by machine 4", 4, works.button(1, 6));
        CHECK.due("it was not drilled", 0, works.button(1, 5));
        CHECK.due("not on a card", -1, works.button(1, 7));
        CHECK.due("count(4)", 1, works.count(4));
    }

    private static void promise10Wrong() {
        ButtonWorks works = new ButtonWorks();
        Works.smallButtons(works, 1, 4, 3);
        CHECK.noSuch("machine 6", () -> works.work(6, 0, 2));
        CHECK.noSuch("machine -1", () -> works.work(-1, 0, 2));
        CHECK.noSuch("button 6", () -> works.work(0, 6, 2));
        CHECK.noSuch("button -1", () -> works.work(0, -1, 2));
        CHECK.noSuch("both", () -> works.work(Integer.MAX_VALUE, Integer.MIN_VALUE, 2));
        CHECK.due("nothing changed", 0, works.machine(0, 0));
    }

    private static void promise11() {
        ButtonWorks works = new ButtonWorks();
        Works.smallButtons(works, 2, 0, 4);
        CHECK.due("not the last", 3, works.works(0, 1, 4, 0));
        CHECK.due("before", 0, works.button(0, 4));
        CHECK.due("the first", 1, works.button(1, 4));
        CHECK.due("the last but one", 1, works.button(3, 4));
        CHECK.due("the last", 0, works.button(4, 4));
        CHECK.due("none", 0, works.works(0, 5, 5, 0));
        CHECK.due("those that are turned are passed by", 3, works.works(1, 0, 6, 0));
        CHECK.due("wear by three", 12, works.machine(1, 0));
        CHECK.due("as long as there are such", 6, works.works(1, 6, Integer.MAX_VALUE, 0));
        CHECK.due("none there", 0, works.works(1, 12, 20, 0));
        CHECK.due("none there", 0, works.works(1, Integer.MAX_VALUE, Integer.MAX_VALUE, 0));
        CHECK.due("wrong holes", 0, works.works(3, 0, 12, 3));
        CHECK.due("4 holes of size 1", 0, works.works(3, 0, 12, 4));
        CHECK.due("no wear by those", 0, works.machine(3, 0));
        works.stands(3, 8);
        CHECK.due("two, and others that are not broken", 2, works.works(3, 0, 4, 2));
        CHECK.due("4 above", 3, works.button(2, 4));
        CHECK.due("8 above", 3, works.button(3, 4));
        CHECK.due("holes", 2, works.button(1, 5));
    }

    private static void promise11Wrong() {
        ButtonWorks works = new ButtonWorks();
        CHECK.due("no buttons at all", 0, works.works(0, 0, 9, 0));
        CHECK.badArgument("from -1", () -> works.works(0, -1, 9, 0));
        CHECK.badArgument("from above to", () -> works.works(0, 5, 4, 0));
        CHECK.badArgument("to below 0", () -> works.works(0, 0, -1, 0));
        CHECK.badArgument("both below 0", () -> works.works(0, -5, -4, 0));
        CHECK.noSuch("machine 6", () -> works.works(6, 0, 1, 0));
        CHECK.noSuch("machine -1", () -> works.works(-1, 0, 1, 0));
        CHECK.noSuch("machine 6 and from above to", () -> works.works(6, 2, 1, 0));
    }

    private static void promise12() {
        ButtonWorks works = new ButtonWorks();
        Works.smallButtons(works, 1, 0, 9);
        works.works(2, 0, 3, 0);
        CHECK.due("what wear was", 27, works.grind(2));
        CHECK.due("wear", 0, works.machine(2, 0));
        CHECK.due("what it did stays", 3, works.machine(2, 2));
        CHECK.due("what it stands stays", 100, works.machine(2, 1));
        CHECK.due("ground again", 0, works.grind(2));
        CHECK.noSuch("machine 6", () -> works.grind(6));
        CHECK.noSuch("machine -1", () -> works.grind(-1));
    }

    private static void promise13() {
        ButtonWorks works = new ButtonWorks();
        Works.smallButtons(works, 1, 0, 6);
        works.stands(1, 12);
        works.works(1, 0, 6, 0);
        CHECK.due("wear", 36, works.machine(1, 0));
        CHECK.due("stands", 12, works.machine(1, 1));
        CHECK.due("did", 2, works.machine(1, 2));
        CHECK.due("broke", 4, works.machine(1, 3));
        CHECK.due("another machine", 0, works.machine(0, 2));
        CHECK.noSuch("what 4", () -> works.machine(1, 4));
        CHECK.noSuch("what -1", () -> works.machine(1, -1));
        CHECK.noSuch("machine 6", () -> works.machine(6, 0));
        CHECK.noSuch("machine -1", () -> works.machine(-1, 0));
    }

    private static void promise14() {
        ButtonWorks works = new ButtonWorks();
        Works.smallButtons(works, 1, 5, 2);
        Works.smallButtons(works, 2, 5, 2);
        CHECK.due("0 hours", 0, works.bleach(1, 0));
        CHECK.due("twelve of shell 1", 12, works.bleach(1, 2));
        CHECK.due("tint", 3, works.button(6, 2));
        CHECK.due("tint of shell 0", 5, works.button(5, 2));
        CHECK.due("not below 0", 12, works.bleach(1, 9));
        CHECK.due("tint", 0, works.button(17, 2));
        CHECK.due("none is another one", 0, works.bleach(1, 1));
        CHECK.due("six of shell 0", 6, works.bleach(0, 1));
        CHECK.due("the first of all", 4, works.button(0, 2));
        works.shell(1, 1, 3, 2, 0, 0, 0, 0, 0);
        CHECK.due("a shell that is not cut", 0, works.bleach(2, 9));
        works.cut(2);
        CHECK.due("its tint is the shell's", 3, works.button(18, 2));
        CHECK.badArgument("hours -1", () -> works.bleach(0, -1));
        CHECK.badArgument("hours 10", () -> works.bleach(0, 10));
        CHECK.noSuch("shell 3", () -> works.bleach(3, 0));
        CHECK.noSuch("shell -1", () -> works.bleach(-1, 0));
        CHECK.noSuch("shell 3 and hours 10", () -> works.bleach(3, 10));
    }

    private static void promise14Untouched() {
        ButtonWorks works = new ButtonWorks();
        Works.smallButtons(works, 3, 7, 1);
        Works.turnAndDrill(works, 0, 13, 2);
        works.card(1, 2, 7, 0);
        works.work(0, 13, 0);
        works.stands(1, 1);
        works.works(1, 14, 16, 0);
        CHECK.due("one is broken", 3, works.button(15, 4));
        CHECK.due("drilled, turned, turned and two blanks", 5, works.bleach(0, 3));
        CHECK.due("on a card", 7, works.button(0, 2));
        CHECK.due("drilled", 4, works.button(12, 2));
        CHECK.due("turned", 4, works.button(13, 2));
        CHECK.due("broken", 7, works.button(15, 2));
        CHECK.due("blank", 4, works.button(17, 2));
    }
}
