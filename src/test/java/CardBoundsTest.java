/** The boundary cases of cards: promises 15 to 17 and the terms that they use. */
public final class CardBoundsTest {
    private static final Check CHECK = new Check();
    private static final int LEAST = Integer.MIN_VALUE;
    private static final int MOST = Integer.MAX_VALUE;

    public static void main(String[] args) {
        twelveButtons();
        thatAreDrilled();
        ofOneSizeHolesTint();
        noSuchSize();
        noSuchHoles();
        noSuchTint();
        noSuchSpan();
        unlikeByAtMostTheSpan();
        thicknessesFromOneOn();
        theFirstTwelveInOrder();
        theLeastNumber();
        ofLikeOnesTheLeastThickness();
        atMostThirtyCards();
        noSuchCard();
        noOtherWhatOfACard();
        theLeastAndGreatestThicknessOnIt();
        noSuchPlaceOnACard();
        CHECK.finish();
    }

    private static Run run(String sentence) {
        return new Run(CHECK, sentence);
    }

    private static void twelveButtons() {
        Run run = run("A CARD is twelve BUTTONS; NONE: there is none");
        run.none("card", 1, 2, 0, 8);
        run.blanks(3, 0, 1);
        run.does("works", 0, 0, 18, 0);
        run.due(11, "works", 3, 0, 11, 2);
        run.none("card", 1, 2, 0, 0);
        run.none("card", 1, 2, 0, 8);
        run.due(1, "work", 3, 11, 2);
        run.due(0, "card", 1, 2, 0, 0);
        run.due(12, "count", 5);
        run.none("card", 1, 2, 0, 8);

        Run more = run("A CARD is twelve BUTTONS: not thirteen");
        more.drilled(4, 0, 1);
        more.due(0, "card", 1, 2, 0, 0);
        more.due(4, "button", 11, 4);
        more.due(2, "button", 12, 4);
        more.due(-1, "button", 12, 7);
        more.due(1, "card", 1, 2, 0, 0);
        more.due(4, "button", 12, 4);
        more.due(1, "button", 12, 7);
        more.due(24, "count", 5);
        more.none("card", 1, 2, 0, 0);
    }

    private static void thatAreDrilled() {
        Run run = run("twelve BUTTONS that are DRILLED");
        run.strong();
        run.blanks(2, 0, 7);
        run.none("card", 1, 2, 0, 8);
        run.due(12, "works", 0, 0, 12, 0);
        run.none("card", 1, 2, 0, 8);
        run.due(11, "works", 3, 0, 11, 2);
        run.does("stands", 3, 77);
        run.due(0, "work", 3, 11, 2);
        run.none("card", 1, 2, 0, 8);
        run.blanks(1, 0, 7);
        run.due(6, "works", 0, 12, 18, 0);
        run.does("stands", 3, 10000);
        run.due(1, "work", 3, 17, 2);
        run.due(0, "card", 1, 2, 0, 8);
        run.due(10, "onCard", 0, 10);
        run.due(17, "onCard", 0, 11);
        run.due(-1, "button", 11, 7);
        run.due(3, "button", 11, 4);
        // Those on a card are not drilled any more.
        run.due(5, "works", 3, 12, 17, 2);
        run.none("card", 1, 2, 0, 8);
    }

    private static void ofOneSizeHolesTint() {
        Run run = run("of one SIZE, HOLES, TINT");
        run.strong();
        run.does("list", 2, 3, 100);
        run.even(6, 4, 3);
        run.even(6, 5, 3);
        run.due(9, "cut", 0);
        run.due(9, "cut", 1);
        run.does("list", 1, 3, 100);
        run.due(2, "shell", 1, 6, 4, 0x333333);
        run.due(6, "cut", 2);
        run.due(24, "works", 0, 0, 24, 0);
        run.due(11, "works", 3, 0, 11, 4);
        run.due(7, "works", 3, 11, 18, 2);
        run.due(6, "works", 3, 18, 24, 2);
        // Of size 2: 9 of tint 4 and 2 of tint 5 with 4 holes, 7 of tint 5 with 2; of size 1: 6 of tint 4 with 2.
        for (int size = 1; size <= 3; size++) {
            for (int holes = 2; holes <= 4; holes += 2) {
                for (int tint = 3; tint <= 6; tint++) {
                    run.none("card", size, holes, tint, 8);
                }
            }
        }
        run.does("bleach", 1, 1);
        // Eleven of size 2 with 4 holes are now of one tint; seven with 2 holes, and six of size 1.
        run.none("card", 2, 4, 4, 8);
        run.none("card", 2, 2, 4, 8);
        run.none("card", 1, 2, 4, 8);
        run.does("list", 1, 3, 0);
        run.even(2, 4, 3);
        run.due(3, "cut", 3);
        run.due(3, "works", 0, 24, 27, 0);
        run.due(1, "work", 3, 24, 4);
        run.none("card", 1, 4, 4, 8);
        run.none("card", 3, 4, 4, 8);
        run.none("card", 2, 2, 4, 8);
        run.none("card", 2, 4, 5, 8);
        run.none("card", 2, 4, 3, 8);
        run.due(0, "card", 2, 4, 4, 0);
    }

    private static void noSuchSize() {
        Run run = run("IllegalArgumentException: no such SIZE");
        run.drilled(2, 0, 1);
        for (int size : new int[] {LEAST, -1, 0, 4, 5, MOST}) {
            run.badArgument("card", size, 2, 0, 8);
        }
        run.none("card", 3, 2, 0, 8);
        run.none("card", 2, 2, 0, 8);
        run.due(0, "card", 1, 2, 0, 8);
    }

    private static void noSuchHoles() {
        Run run = run("IllegalArgumentException: no such HOLES (2 or 4)");
        run.drilled(2, 0, 1);
        for (int holes : new int[] {LEAST, -4, -2, -1, 0, 1, 3, 5, 6, MOST}) {
            run.badArgument("card", 1, holes, 0, 8);
            run.badArgument("card", 2, holes, 0, 8);
        }
        run.none("card", 2, 4, 0, 8);
        run.none("card", 1, 4, 0, 8);
        run.due(0, "card", 1, 2, 0, 8);
    }

    private static void noSuchTint() {
        Run run = run("IllegalArgumentException: no such TINT (0 to 9)");
        run.strong();
        run.drilled(2, 0, 1);
        run.drilled(2, 9, 1);
        for (int tint : new int[] {LEAST, -1, 10, 11, MOST}) {
            run.badArgument("card", 1, 2, tint, 8);
        }
        run.due(0, "card", 1, 2, 0, 8);
        run.due(1, "card", 1, 2, 9, 8);
    }

    private static void noSuchSpan() {
        Run run = run("IllegalArgumentException: no such span (0 to 8)");
        run.drilled(2, 0, 1);
        run.drilled(2, 0, 1);
        for (int span : new int[] {LEAST, -1, 9, 10, MOST}) {
            run.badArgument("card", 1, 2, 0, span);
        }
        run.badArgument("card", 0, 3, -1, 9);
        run.due(0, "card", 1, 2, 0, 0);
        run.due(1, "card", 1, 2, 0, 8);
    }

    /** For each two thicknesses: a span that is one too small, and the one that is just enough. */
    private static void unlikeByAtMostTheSpan() {
        for (int least = 1; least <= 8; least++) {
            for (int greatest = least + 1; greatest <= 9; greatest++) {
                Run run = run("unlike in THICKNESS by at most a told span, " + least + " and " + greatest);
                run.strong();
                run.drilled(1, 0, greatest);
                run.drilled(1, 0, least);
                run.none("card", 1, 2, 0, greatest - least - 1);
                run.due(0, "card", 1, 2, 0, greatest - least);
                run.due(least, "cardOf", 0, 3);
                run.due(greatest, "cardOf", 0, 4);
            }
        }
    }

    private static void thicknessesFromOneOn() {
        for (int thickness = 1; thickness <= 9; thickness++) {
            for (int span = 0; span <= 8; span += 4) {
                Run run = run("of all THICKNESSES t from 1 on the BUTTONS of t to t and the span, " + thickness);
                run.strong();
                run.drilled(2, 0, thickness);
                run.due(0, "card", 1, 2, 0, span);
                run.due(thickness, "cardOf", 0, 3);
                run.due(thickness, "cardOf", 0, 4);
            }
        }
    }

    private static void theFirstTwelveInOrder() {
        Run run = run("in order; of the first twelve of each t");
        run.strong();
        run.blanks(4, 0, 3);
        run.does("works", 0, 0, 24, 0);
        for (int button = 23; button >= 1; button -= 2) {
            run.due(1, "work", 3, button, 2);
        }
        run.due(1, "work", 3, 22, 2);
        run.due(0, "card", 1, 2, 0, 0);
        for (int i = 0; i < 11; i++) {
            run.due(2 * i + 1, "onCard", 0, i);
        }
        run.due(22, "onCard", 0, 11);
        run.due(2, "button", 23, 4);
    }

    private static void theLeastNumber() {
        Run run = run("that CARD whose first BUTTON has the least number");
        run.strong();
        run.does("list", 1, 9, 1);
        run.does("list", 1, 1, 1);
        run.due(0, "shell", 1, 6, 0, 0x111119);
        run.due(6, "cut", 0);
        run.blanks(2, 0, 1);
        run.blanks(2, 0, 9);
        run.due(30, "works", 0, 0, 30, 0);
        run.due(29, "works", 3, 0, 29, 2);
        // Of 9 there are 0 and 18 to 28, twelve; of 1 there are 1 to 17.
        run.due(0, "card", 1, 2, 0, 0);
        run.due(0, "onCard", 0, 0);
        run.due(18, "onCard", 0, 1);
        run.due(9, "cardOf", 0, 3);
        run.due(1, "card", 1, 2, 0, 0);
        run.due(1, "onCard", 1, 0);
        run.due(1, "cardOf", 1, 4);

        Run few = run("of each t that has so many");
        few.strong();
        few.drilled(1, 0, 9);
        few.drilled(2, 0, 1);
        few.blanks(1, 0, 9);
        few.does("works", 0, 18, 24, 0);
        few.due(5, "works", 3, 18, 23, 2);
        // Of 9 there are but eleven.
        few.due(0, "card", 1, 2, 0, 7);
        few.due(6, "onCard", 0, 0);
        few.due(1, "cardOf", 0, 4);
    }

    private static void ofLikeOnesTheLeastThickness() {
        Run run = run("of like ones the least t");
        run.strong();
        run.drilled(1, 0, 5);
        run.drilled(1, 0, 6);
        run.drilled(1, 0, 4);
        // t is 4 (5 and 4) or 5 (5 and 6): both begin with button 0.
        run.due(0, "card", 1, 2, 0, 1);
        run.due(4, "cardOf", 0, 3);
        run.due(5, "cardOf", 0, 4);
        run.due(12, "onCard", 0, 6);
        run.due(2, "button", 6, 4);

        Run edge = run("THICKNESSES t from 1 on: the least t is 1");
        edge.strong();
        edge.drilled(1, 0, 1);
        edge.drilled(1, 0, 2);
        edge.drilled(1, 0, 1);
        // t is 1: those of 1 and of 2; those of 1 alone would be a t of 0.
        edge.due(0, "card", 1, 2, 0, 1);
        edge.due(6, "onCard", 0, 6);
        edge.due(2, "cardOf", 0, 4);

        Run last = run("THICKNESSES t from 1 on: the greatest t is 9");
        last.strong();
        last.drilled(1, 0, 9);
        last.drilled(2, 0, 8);
        last.drilled(1, 0, 9);
        // t is 9 alone with a span of 0, and 1 with a span of 8.
        last.due(0, "card", 1, 2, 0, 0);
        last.due(0, "onCard", 0, 0);
        last.due(18, "onCard", 0, 6);
        last.due(9, "cardOf", 0, 3);
        last.due(1, "card", 1, 2, 0, 8);
        last.due(8, "cardOf", 1, 4);
    }

    private static void atMostThirtyCards() {
        Run run = run("CARDS are numbered from 0 on, at most 30; NONE: there are 30");
        run.strong();
        run.does("list", 1, 1, 1);
        for (int shell = 0; shell < 11; shell++) {
            run.even(6, 0, 1);
            run.due(36, "cut", shell);
        }
        run.due(396, "works", 0, 0, 396, 0);
        run.due(396, "works", 3, 0, 396, 2);
        for (int card = 0; card < 30; card++) {
            run.due(card, "card", 1, 2, 0, card % 9);
        }
        run.none("card", 1, 2, 0, 0);
        run.none("card", 1, 2, 0, 8);
        run.due(30, "count", 2);
        run.due(360, "count", 5);
        run.due(359, "onCard", 29, 11);
        run.due(2, "button", 360, 4);
        run.noSuch("cardOf", 30, 0);
        run.noSuch("onCard", 30, 0);
        // Those that are sent count too.
        run.due(0, "order", 9, 1, 2, 0, 0, 0, 1);
        run.due(9, "send", 0);
        run.none("card", 1, 2, 0, 0);
    }

    private static void noSuchCard() {
        Run run = run("NoSuchElementException: no such CARD");
        run.busy();
        for (int card : new int[] {LEAST, -1, Run.BUSY_CARDS, Run.BUSY_CARDS + 1, 30, MOST}) {
            run.noSuch("cardOf", card, 0);
            run.noSuch("onCard", card, 0);
        }
        run.due(5, "cardOf", 0, 2);
        run.due(6, "cardOf", Run.BUSY_CARDS - 1, 2);
        run.due(0, "onCard", 0, 0);
        run.due(23, "onCard", Run.BUSY_CARDS - 1, 11);
    }

    private static void noOtherWhatOfACard() {
        Run run = run("Of a CARD: 0 SIZE to 5 the ORDER by which it was SENT (NONE); no such what");
        run.busy();
        int[] dueOfSent = {1, 2, 5, 4, 4, 0};
        int[] dueOfUnsent = {1, 2, 6, 4, 4, -1};
        for (int what = 0; what <= 5; what++) {
            run.due(dueOfSent[what], "cardOf", 0, what);
            run.due(dueOfUnsent[what], "cardOf", 1, what);
        }
        for (int what : new int[] {LEAST, -1, 6, 7, MOST}) {
            run.noSuch("cardOf", 0, what);
            run.noSuch("cardOf", 1, what);
        }
    }

    /** The least and greatest of the buttons, which need not be t and t with the span. */
    private static void theLeastAndGreatestThicknessOnIt() {
        Run run = run("3 the least, 4 the greatest THICKNESS on it");
        run.strong();
        run.does("list", 1, 4, 1);
        run.does("list", 1, 5, 1);
        run.does("list", 1, 6, 1);
        run.due(0, "shell", 2, 6, 0, 0x555655, 0x555455);
        run.due(12, "cut", 0);
        run.due(12, "works", 0, 0, 12, 0);
        run.due(12, "works", 3, 0, 12, 2);
        run.due(0, "card", 1, 2, 0, 8);
        run.due(4, "cardOf", 0, 3);
        run.due(6, "cardOf", 0, 4);
        run.due(1, "shell", 2, 6, 0, 0x555556, 0x455555);
        run.due(12, "cut", 1);
        run.due(12, "works", 0, 12, 24, 0);
        run.due(12, "works", 3, 12, 24, 2);
        run.due(1, "card", 1, 2, 0, 2);
        run.due(4, "cardOf", 1, 3);
        run.due(6, "cardOf", 1, 4);
    }

    private static void noSuchPlaceOnACard() {
        Run run = run("The i-th BUTTON of a CARD (by number): i is not 0 to 11");
        run.busy();
        for (int i = 0; i <= 11; i++) {
            run.due(i, "onCard", 0, i);
            run.due(12 + i, "onCard", 1, i);
        }
        for (int i : new int[] {LEAST, -1, 12, 13, MOST}) {
            run.noSuch("onCard", 0, i);
            run.noSuch("onCard", 1, i);
        }
    }
}
