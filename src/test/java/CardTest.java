/** Promises 15 to 17: card, cardOf, onCard. */
public final class CardTest {
    private static final Check CHECK = new Check();

    public static void main(String[] args) {
        promise15Twelve();
        promise15OfOneKind();
        promise15Span();
        promise15LeastNumber();
        promise15LeastThicknessOfLikeOnes();
        promise15Wrong();
        promise15Thirty();
        promise16();
        promise17();
        CHECK.finish();
    }

    private static void promise15Twelve() {
        ButtonWorks works = Works.strong();
        Works.smallButtons(works, 3, 5, 2);
        CHECK.due("blanks", -1, works.card(1, 2, 5, 8));
        works.works(0, 0, 18, 0);
        CHECK.due("turned", -1, works.card(1, 2, 5, 8));
        works.works(3, 0, 11, 2);
        CHECK.due("eleven drilled", -1, works.card(1, 2, 5, 8));
        CHECK.due("nothing changed", 2, works.button(0, 4));
        works.work(3, 17, 2);
        CHECK.due("twelve drilled", 0, works.card(1, 2, 5, 0));
        CHECK.due("the twelfth", 17, works.onCard(0, 11));
        CHECK.due("state", 4, works.button(17, 4));
        CHECK.due("its card", 0, works.button(17, 7));
        CHECK.due("one that is left", -1, works.button(11, 7));
        CHECK.due("none left", -1, works.card(1, 2, 5, 8));
    }

    private static void promise15OfOneKind() {
        ButtonWorks works = Works.strong();
        works.list(2, 3, 100);
        for (int i = 0; i < 3; i++) {
            works.cut(Works.even(works, 6, i, 3));
        }
        works.works(0, 0, 27, 0);
        works.works(3, 0, 13, 2);
        works.works(3, 13, 27, 4);
        CHECK.due("tints 0 and 1 are not one", -1, works.card(2, 2, 1, 8));
        works.bleach(1, 9);
        CHECK.due("another size", -1, works.card(1, 2, 0, 8));
        CHECK.due("another size", -1, works.card(3, 2, 0, 8));
        CHECK.due("other holes", -1, works.card(2, 4, 0, 8));
        CHECK.due("another tint", -1, works.card(2, 2, 1, 8));
        CHECK.due("one kind", 0, works.card(2, 2, 0, 8));
        CHECK.due("other holes, 5 and 9 of two tints", -1, works.card(2, 4, 2, 8));
        works.bleach(2, 2);
        CHECK.due("of one tint", 1, works.card(2, 4, 0, 0));
        CHECK.due("its first", 13, works.onCard(1, 0));
    }

    private static void promise15Span() {
        ButtonWorks works = Works.strong();
        Works.smallButtons(works, 1, 0, 3);
        Works.smallButtons(works, 1, 0, 6);
        Works.turnAndDrill(works, 0, 12, 2);
        for (int span = 0; span < 3; span++) {
            CHECK.due("a span too small", -1, works.card(1, 2, 0, span));
        }
        CHECK.due("3 to 6", 0, works.card(1, 2, 0, 3));
        CHECK.due("least", 3, works.cardOf(0, 3));
        CHECK.due("greatest", 6, works.cardOf(0, 4));

        ButtonWorks wide = Works.strong();
        Works.smallButtons(wide, 1, 0, 1);
        Works.smallButtons(wide, 1, 0, 9);
        Works.turnAndDrill(wide, 0, 12, 2);
        CHECK.due("span 7", -1, wide.card(1, 2, 0, 7));
        CHECK.due("span 8", 0, wide.card(1, 2, 0, 8));
    }

    private static void promise15LeastNumber() {
        ButtonWorks works = Works.strong();
        Works.smallButtons(works, 2, 0, 7);
        Works.smallButtons(works, 2, 0, 2);
        Works.turnAndDrill(works, 0, 24, 2);
        CHECK.due("two dozens", 0, works.card(1, 2, 0, 0));
        CHECK.due("that of the least number, not the least thickness", 0, works.onCard(0, 0));
        CHECK.due("thickness", 7, works.cardOf(0, 3));
        CHECK.due("the other", 1, works.card(1, 2, 0, 0));
        CHECK.due("its first", 12, works.onCard(1, 0));
        CHECK.due("thickness", 2, works.cardOf(1, 4));

        ButtonWorks mixed = Works.strong();
        mixed.list(1, 9, 1);
        mixed.list(1, 4, 1);
        mixed.shell(1, 6, 0, 0x444449, 0, 0, 0, 0, 0);
        mixed.cut(0);
        Works.smallButtons(mixed, 2, 0, 4);
        Works.smallButtons(mixed, 2, 0, 9);
        Works.turnAndDrill(mixed, 0, 30, 2);
        CHECK.due("the first alone counts, not the second", 0, mixed.card(1, 2, 0, 0));
        CHECK.due("first", 0, mixed.onCard(0, 0));
        CHECK.due("second", 18, mixed.onCard(0, 1));
        CHECK.due("thickness 9", 9, mixed.cardOf(0, 3));

        ButtonWorks few = Works.strong();
        Works.smallButtons(few, 1, 0, 7);
        Works.smallButtons(few, 2, 0, 2);
        Works.turnAndDrill(few, 0, 18, 2);
        CHECK.due("too few of the first", 0, few.card(1, 2, 0, 4));
        CHECK.due("first", 6, few.onCard(0, 0));
    }

    private static void promise15LeastThicknessOfLikeOnes() {
        ButtonWorks works = Works.strong();
        Works.smallButtons(works, 1, 0, 5);
        Works.smallButtons(works, 1, 0, 6);
        Works.smallButtons(works, 1, 0, 4);
        Works.turnAndDrill(works, 0, 18, 2);
        CHECK.due("card", 0, works.card(1, 2, 0, 1));
        CHECK.due("t is 4, not 5", 4, works.cardOf(0, 3));
        CHECK.due("greatest", 5, works.cardOf(0, 4));
        CHECK.due("first", 0, works.onCard(0, 0));
        CHECK.due("sixth", 5, works.onCard(0, 5));
        CHECK.due("seventh", 12, works.onCard(0, 6));
        CHECK.due("those of 6 are left", 2, works.button(6, 4));
    }

    private static void promise15Wrong() {
        ButtonWorks works = new ButtonWorks();
        CHECK.badArgument("size 0", () -> works.card(0, 2, 0, 0));
        CHECK.badArgument("size 4", () -> works.card(4, 2, 0, 0));
        CHECK.badArgument("holes 0", () -> works.card(1, 0, 0, 0));
        CHECK.badArgument("holes 3", () -> works.card(1, 3, 0, 0));
        CHECK.badArgument("holes 5", () -> works.card(1, 5, 0, 0));
        CHECK.badArgument("tint -1", () -> works.card(1, 2, -1, 0));
        CHECK.badArgument("tint 10", () -> works.card(1, 2, 10, 0));
        CHECK.badArgument("span -1", () -> works.card(1, 2, 0, -1));
        CHECK.badArgument("span 9", () -> works.card(1, 2, 0, 9));
        CHECK.badArgument("span 2147483647", () -> works.card(1, 2, 0, Integer.MAX_VALUE));
        CHECK.due("4 holes of size 1 can be asked, there is none", -1, works.card(1, 4, 0, 8));
        CHECK.due("edges", -1, works.card(3, 4, 9, 8));
    }

    private static void promise15Thirty() {
        ButtonWorks works = Works.strong();
        works.list(1, 1, 1);
        for (int i = 0; i < 11; i++) {
            works.cut(Works.even(works, 6, 0, 1));
        }
        Works.turnAndDrill(works, 0, 396, 2);
        for (int i = 0; i < 30; i++) {
            CHECK.due("card " + i, i, works.card(1, 2, 0, 0));
        }
        CHECK.due("count(2)", 30, works.count(2));
        CHECK.due("count(5)", 360, works.count(5));
        CHECK.due("a card more", -1, works.card(1, 2, 0, 0));
        CHECK.due("its buttons are free", 2, works.button(360, 4));
        CHECK.due("the last card", 359, works.onCard(29, 11));
        CHECK.badArgument("wrong beside full", () -> works.card(0, 2, 0, 0));
        CHECK.noSuch("card 30", () -> works.cardOf(30, 0));
    }

    private static void promise16() {
        ButtonWorks works = Works.strong();
        works.list(2, 8, 100);
        works.cut(Works.even(works, 6, 7, 8));
        works.list(2, 5, 100);
        works.cut(Works.even(works, 4, 7, 5));
        Works.turnAndDrill(works, 0, 15, 4);
        works.card(2, 4, 7, 4);
        int[] due = {2, 4, 7, 5, 8, -1};
        for (int what = 0; what < due.length; what++) {
            CHECK.due("cardOf(0, " + what + ")", due[what], works.cardOf(0, what));
        }
        works.order(2, 2, 4, 7, 7, 0, 1);
        works.order(1, 2, 4, 7, 7, 0, 1);
        works.send(0);
        CHECK.due("the order by which it was sent", 1, works.cardOf(0, 5));
        CHECK.noSuch("what 6", () -> works.cardOf(0, 6));
        CHECK.noSuch("what -1", () -> works.cardOf(0, -1));
        CHECK.noSuch("card 1", () -> works.cardOf(1, 0));
        CHECK.noSuch("card -1", () -> works.cardOf(-1, 0));
    }

    private static void promise17() {
        ButtonWorks works = Works.strong();
        Works.smallButtons(works, 4, 0, 3);
        works.works(0, 0, 24, 0);
        for (int i = 23; i > 0; i -= 2) {
            works.work(3, i, 2);
        }
        works.card(1, 2, 0, 0);
        for (int i = 0; i < 12; i++) {
            CHECK.due("onCard(0, " + i + ")", 2 * i + 1, works.onCard(0, i));
        }
        CHECK.noSuch("i 12", () -> works.onCard(0, 12));
        CHECK.noSuch("i -1", () -> works.onCard(0, -1));
        CHECK.noSuch("card 1", () -> works.onCard(1, 0));
        CHECK.noSuch("card -1", () -> works.onCard(-1, 0));
    }
}
