/** The boundary cases of orders, sending and counting: promises 18 to 21 and the terms that they use. */
public final class OrderBoundsTest {
    private static final Check CHECK = new Check();
    private static final int LEAST = Integer.MIN_VALUE;
    private static final int MOST = Integer.MAX_VALUE;
    private static final String[] TERMS = {"CARDS (1 to 9)", "a SIZE", "HOLES", "a TINT from one", "to another one",
        "DUE on a DAY (0 to 999)", "a PRICE (0 to 999)"};

    public static void main(String[] args) {
        eachNumberAsTold();
        tintFromAboveTo();
        atMostThirtyOrders();
        sendDayNoughtTo2000();
        nothingToSend();
        cardsEnough();
        cardsThatFit();
        cardsThatAreNotSent();
        ordersThatAreNotSent();
        byTheirDays();
        byTheirDaysInEachOrder();
        ofLikeDaysByNumber();
        cardsOfTheLeastNumbers();
        behindItsDay();
        halfThePriceCutDown();
        greatestPay();
        sentOnWhichDay();
        noSuchOrder();
        noOtherWhatToCount();
        countsOfEachKind();
        CHECK.finish();
    }

    private static Run run(String sentence) {
        return new Run(CHECK, sentence);
    }

    /** For each number of an order the least, the greatest, and those beyond; the others are right. */
    private static void eachNumberAsTold() {
        int[][] right = {{1, 9}, {1, 2, 3}, {2, 4}, {0, 5}, {5, 9}, {0, 999}, {0, 999}};
        int[][] wrong = {{LEAST, -1, 0, 10, 11, MOST}, {LEAST, -1, 0, 4, 5, MOST},
            {LEAST, -4, -2, 0, 1, 3, 5, 6, MOST}, {LEAST, -1, 6, 9, 10, MOST}, {LEAST, -1, 0, 4, 10, 11, MOST},
            {LEAST, -1, 1000, 1001, 2000, MOST}, {LEAST, -1, 1000, 1001, MOST}};
        for (int i = 0; i < TERMS.length; i++) {
            Run run = run("ORDERS: " + TERMS[i] + "; NONE: a number is not as told");
            int orders = 0;
            for (int n : right[i]) {
                run.due(orders, "order", with(i, n));
                orders++;
            }
            for (int n : wrong[i]) {
                run.none("order", with(i, n));
            }
            run.due(orders, "count", 3);
            run.due(orders, "order", with(i, right[i][0]));
        }
    }

    private static int[] with(int at, int n) {
        int[] a = {2, 2, 2, 5, 5, 500, 500};
        a[at] = n;
        return a;
    }

    private static void tintFromAboveTo() {
        Run run = run("a TINT from one to another one; NONE: tint from above to");
        int orders = 0;
        for (int from = 0; from <= 9; from += 3) {
            for (int to = 0; to <= 9; to += 3) {
                if (from <= to) {
                    run.due(orders, "order", 1, 1, 2, from, to, 0, 0);
                    orders++;
                } else {
                    run.none("order", 1, 1, 2, from, to, 0, 0);
                }
            }
        }
        for (int from = 1; from <= 9; from++) {
            run.none("order", 1, 1, 2, from, from - 1, 0, 0);
        }
        run.none("order", 1, 1, 2, 10, 10, 0, 0);
        run.none("order", 1, 1, 2, -1, -1, 0, 0);
        run.none("order", 1, 1, 2, 10, 9, 0, 0);
        run.none("order", 1, 1, 2, 0, -1, 0, 0);
    }

    private static void atMostThirtyOrders() {
        Run run = run("ORDERS, from 0 on, at most 30; NONE: there are 30");
        run.cards(1, 0, 1);
        for (int order = 0; order < 30; order++) {
            run.due(order, "order", 1, 1, 2, 0, 9, 30 - order, order);
        }
        run.none("order", 1, 1, 2, 0, 9, 0, 999);
        run.none("order", 1, 1, 2, 0, 9, 999, 0);
        run.due(30, "count", 3);
        run.due(-1, "sent", 29);
        run.noSuch("sent", 30);
        // The last one is due first; one that is sent makes no room.
        run.due(29, "send", 1);
        run.due(1, "sent", 29);
        run.due(-1, "sent", 28);
        run.none("order", 1, 1, 2, 0, 9, 0, 1);
    }

    private static void sendDayNoughtTo2000() {
        Run run = run("SENT on a DAY: IllegalArgumentException: it is not 0 to 2000");
        run.busy();
        run.cards(1, 6, 8);
        for (int day : new int[] {LEAST, -1, 2001, 2002, MOST}) {
            run.badArgument("send", day);
        }
        run.due(50, "send", 2000);
        run.due(2000, "sent", 1);
        run.due(0, "send", 2000);

        Run first = run("SENT on a DAY 0");
        first.cards(1, 0, 1);
        first.due(0, "order", 1, 1, 2, 0, 0, 0, 9);
        first.due(9, "send", 0);
        first.due(0, "sent", 0);
    }

    private static void nothingToSend() {
        Run run = run("SENT on a DAY: what was paid, without ORDERS or without CARDS");
        run.due(0, "send", 0);
        run.due(0, "order", 1, 1, 2, 0, 9, 0, 999);
        run.due(0, "send", 0);
        run.due(-1, "sent", 0);
        run.due(0, "count", 6);
        Run cards = run("SENT on a DAY: what was paid, with CARDS but without ORDERS");
        cards.cards(1, 0, 1);
        cards.due(0, "send", 5);
        cards.due(-1, "cardOf", 0, 5);
        cards.due(0, "order", 1, 1, 2, 0, 9, 5, 0);
        cards.due(0, "send", 5);
        cards.due(5, "sent", 0);
        cards.due(0, "cardOf", 0, 5);
    }

    private static void cardsEnough() {
        for (int wanted = 2; wanted <= 9; wanted++) {
            Run run = run("each for which CARDS enough are there, " + wanted);
            run.strong();
            run.cards(wanted - 1, 0, 1);
            run.due(0, "order", wanted, 1, 2, 0, 9, 5, 10);
            run.due(0, "send", 5);
            run.due(-1, "sent", 0);
            for (int card = 0; card < wanted - 1; card++) {
                run.due(-1, "cardOf", card, 5);
            }
            run.cards(1, 0, 1);
            run.due(10 * wanted, "send", 5);
            run.due(5, "sent", 0);
            for (int card = 0; card < wanted; card++) {
                run.due(0, "cardOf", card, 5);
            }
        }
        Run passed = run("one for which too few are there keeps none from those behind it");
        passed.strong();
        passed.cards(2, 0, 1);
        passed.due(0, "order", 3, 1, 2, 0, 9, 1, 100);
        passed.due(1, "order", 2, 1, 2, 0, 9, 2, 10);
        passed.due(20, "send", 0);
        passed.due(-1, "sent", 0);
        passed.due(0, "sent", 1);
    }

    private static void cardsThatFit() {
        Run run = run("CARDS that fit: SIZE, HOLES, a TINT from one to another one");
        run.strong();
        run.cards(1, 3, 1);
        run.cards(1, 6, 1);
        run.due(0, "order", 1, 2, 2, 0, 9, 0, 1);
        run.due(1, "order", 1, 3, 2, 0, 9, 0, 1);
        run.due(2, "order", 1, 1, 4, 0, 9, 0, 1);
        run.due(3, "order", 1, 1, 2, 0, 2, 0, 1);
        run.due(4, "order", 1, 1, 2, 4, 5, 0, 1);
        run.due(5, "order", 1, 1, 2, 7, 9, 0, 1);
        run.due(6, "order", 2, 1, 2, 3, 5, 0, 1);
        run.due(7, "order", 2, 1, 2, 4, 6, 0, 1);
        run.due(0, "send", 0);
        run.due(8, "order", 1, 1, 2, 6, 6, 0, 5);
        run.due(5, "send", 0);
        run.due(8, "cardOf", 1, 5);
        run.due(9, "order", 1, 1, 2, 0, 3, 0, 7);
        run.due(7, "send", 0);
        run.due(9, "cardOf", 0, 5);

        Run ends = run("a TINT from one to another one: both ends fit");
        ends.strong();
        ends.cards(1, 3, 1);
        ends.cards(1, 6, 1);
        ends.due(0, "order", 2, 1, 2, 3, 6, 0, 5);
        ends.due(10, "send", 0);
    }

    private static void cardsThatAreNotSent() {
        Run run = run("CARDS that aren't SENT");
        run.strong();
        run.cards(2, 0, 1);
        run.due(0, "order", 1, 1, 2, 0, 9, 0, 1);
        run.due(1, "order", 2, 1, 2, 0, 9, 1, 10);
        run.due(1, "send", 0);
        run.due(-1, "sent", 1);
        run.due(0, "cardOf", 0, 5);
        run.due(-1, "cardOf", 1, 5);
        run.due(0, "send", 0);
        run.due(0, "cardOf", 0, 5);
        run.cards(1, 0, 1);
        run.due(20, "send", 1);
        run.due(0, "cardOf", 0, 5);
        run.due(1, "cardOf", 1, 5);
        run.due(1, "cardOf", 2, 5);
    }

    private static void ordersThatAreNotSent() {
        Run run = run("of all ORDERS that aren't SENT");
        run.strong();
        run.cards(3, 0, 1);
        run.due(0, "order", 1, 1, 2, 0, 9, 7, 40);
        run.due(40, "send", 7);
        run.due(0, "send", 8);
        run.due(7, "sent", 0);
        run.due(0, "cardOf", 0, 5);
        run.due(-1, "cardOf", 1, 5);
        run.due(40, "count", 6);
    }

    private static void byTheirDays() {
        Run run = run("by their DAYS");
        run.strong();
        run.cards(2, 0, 1);
        run.due(0, "order", 1, 1, 2, 0, 9, 999, 100);
        run.due(1, "order", 1, 1, 2, 0, 9, 998, 10);
        run.due(2, "order", 1, 1, 2, 0, 9, 0, 1);
        run.due(11, "send", 0);
        run.due(2, "cardOf", 0, 5);
        run.due(1, "cardOf", 1, 5);
        run.due(-1, "sent", 0);
        // An order due before the one that waits goes ahead of it, though its number is greater.
        run.due(3, "order", 1, 1, 2, 0, 9, 500, 7);
        run.cards(1, 0, 1);
        run.due(7, "send", 1);
        run.due(-1, "sent", 0);
        run.due(1, "sent", 3);
    }

    /** Each card goes to the next order, so that the cards tell the order of the orders. */
    private static void byTheirDaysInEachOrder() {
        for (int drawn = 0; drawn < 81; drawn++) {
            int[] days = {drawn % 3, drawn / 3 % 3, drawn / 9 % 3, drawn / 27};
            Run run = run("by their DAYS (of like ones by number), days " + java.util.Arrays.toString(days));
            run.strong();
            run.cards(4, 0, 1);
            for (int order = 0; order < 4; order++) {
                run.due(order, "order", 1, 1, 2, 0, 9, days[order], 1);
            }
            run.due(4, "send", 0);
            int card = 0;
            for (int day = 0; day < 3; day++) {
                for (int order = 0; order < 4; order++) {
                    if (days[order] == day) {
                        run.due(order, "cardOf", card, 5);
                        card++;
                    }
                }
            }
        }
    }

    private static void ofLikeDaysByNumber() {
        Run run = run("of like ones by number");
        run.strong();
        run.cards(2, 0, 1);
        run.due(0, "order", 1, 1, 2, 0, 9, 5, 1);
        run.due(1, "order", 1, 1, 2, 0, 9, 5, 10);
        run.due(2, "order", 1, 1, 2, 0, 9, 5, 100);
        run.due(11, "send", 5);
        run.due(0, "cardOf", 0, 5);
        run.due(1, "cardOf", 1, 5);
        run.due(-1, "sent", 2);
    }

    private static void cardsOfTheLeastNumbers() {
        Run run = run("gets those of the least numbers");
        run.strong();
        run.cards(1, 1, 1);
        run.cards(3, 5, 1);
        run.cards(1, 4, 1);
        run.due(0, "order", 2, 1, 2, 4, 9, 0, 1);
        run.due(2, "send", 0);
        int[] due = {-1, 0, 0, -1, -1};
        for (int card = 0; card < due.length; card++) {
            run.due(due[card], "cardOf", card, 5);
        }
        run.due(1, "order", 3, 1, 2, 0, 9, 0, 1);
        run.due(3, "send", 0);
        int[] dueThen = {1, 0, 0, 1, 1};
        for (int card = 0; card < dueThen.length; card++) {
            run.due(dueThen[card], "cardOf", card, 5);
        }
    }

    private static void behindItsDay() {
        int[][] days = {{10, 9, 100}, {10, 10, 100}, {10, 11, 50}, {0, 0, 100}, {0, 1, 50}, {999, 998, 100},
            {999, 999, 100}, {999, 1000, 50}, {999, 2000, 50}, {999, 0, 100}, {0, 2000, 50}};
        for (int[] d : days) {
            Run run = run("one that is SENT behind its DAY: half its PRICE is paid, due " + d[0]);
            run.cards(1, 0, 1);
            run.due(0, "order", 1, 1, 2, 0, 9, d[0], 100);
            run.due(d[2], "send", d[1]);
            run.due(d[2], "count", 6);
            run.due(d[1], "sent", 0);
        }
    }

    /** For each card by itself: half of 3 for two cards is 2, not 3. */
    private static void halfThePriceCutDown() {
        int[][] prices = {{0, 0}, {1, 0}, {2, 1}, {3, 1}, {998, 499}, {999, 499}};
        for (int[] p : prices) {
            Run run = run("half its PRICE, cut down, is paid for each CARD, " + p[0]);
            run.strong();
            run.cards(5, 0, 1);
            run.due(0, "order", 2, 1, 2, 0, 9, 0, p[0]);
            run.due(1, "order", 3, 1, 2, 0, 9, 1, p[0]);
            run.due(2 * p[1] + 3 * p[0], "send", 1);
            run.due(2 * p[1] + 3 * p[0], "count", 6);
        }
    }

    private static void greatestPay() {
        Run run = run("what was paid, for thirty CARDS of the greatest PRICE");
        run.strong();
        run.does("list", 1, 1, 1);
        for (int shell = 0; shell < 10; shell++) {
            run.even(6, 9, 1);
            run.due(36, "cut", shell);
        }
        run.due(360, "works", 0, 0, 400, 0);
        run.due(360, "works", 3, 0, 400, 2);
        for (int card = 0; card < 30; card++) {
            run.due(card, "card", 1, 2, 9, 0);
        }
        for (int order = 0; order < 4; order++) {
            run.due(order, "order", 9, 1, 2, 9, 9, 999, 999);
        }
        run.due(27 * 999, "send", 999);
        run.due(-1, "sent", 3);
        run.due(4, "order", 3, 1, 2, 0, 9, 999, 999);
        run.due(3 * 999, "send", 0);
        run.due(30 * 999, "count", 6);
        run.due(4, "cardOf", 29, 5);
    }

    private static void sentOnWhichDay() {
        Run run = run("On which DAY an ORDER was SENT; NONE");
        run.strong();
        run.cards(2, 0, 1);
        run.due(0, "order", 1, 1, 2, 0, 9, 3, 1);
        run.due(-1, "sent", 0);
        run.due(1, "send", 0);
        run.due(0, "sent", 0);
        run.due(1, "order", 1, 1, 2, 0, 9, 3, 1);
        run.due(-1, "sent", 1);
        run.due(0, "send", 2000);
        run.due(2000, "sent", 1);
        run.due(0, "sent", 0);
        run.due(0, "send", 5);
        run.due(2000, "sent", 1);
    }

    private static void noSuchOrder() {
        Run run = run("NoSuchElementException: no such ORDER");
        run.busy();
        for (int order : new int[] {LEAST, -1, Run.BUSY_ORDERS, Run.BUSY_ORDERS + 1, 30, MOST}) {
            run.noSuch("sent", order);
        }
        run.due(10, "sent", 0);
        run.due(-1, "sent", Run.BUSY_ORDERS - 1);
    }

    private static void noOtherWhatToCount() {
        Run run = run("count: 0 SHELLS to 6 what was paid in all; another what");
        for (int what : new int[] {LEAST, -1, 7, 8, MOST}) {
            run.noSuch("count", what);
        }
        run.busy();
        int[] due = {Run.BUSY_SHELLS, Run.BUSY_BUTTONS, Run.BUSY_CARDS, Run.BUSY_ORDERS, 2, 24, 100};
        for (int what = 0; what <= 6; what++) {
            run.due(due[what], "count", what);
        }
        for (int what : new int[] {LEAST, -1, 7, 8, MOST}) {
            run.noSuch("count", what);
        }
    }

    private static void countsOfEachKind() {
        Run run = run("count: 4 BUTTONS that are BROKEN, 5 on CARDS, 6 what was paid in all");
        run.blanks(4, 0, 1);
        run.due(24, "works", 0, 0, 24, 0);
        run.due(22, "works", 3, 0, 22, 2);
        run.due(0, "count", 4);
        run.does("stands", 4, 1);
        run.due(1, "works", 4, 22, 24, 2);
        run.due(1, "count", 4);
        run.due(0, "count", 5);
        run.due(0, "card", 1, 2, 0, 0);
        run.due(12, "count", 5);
        run.due(0, "order", 1, 1, 2, 0, 9, 0, 9);
        run.due(1, "order", 1, 1, 2, 0, 9, 0, 9);
        run.due(4, "send", 1);
        run.due(4, "count", 6);
        // What is sent is still counted.
        run.due(1, "count", 2);
        run.due(12, "count", 5);
        run.due(2, "count", 3);
        run.blanks(1, 0, 1);
        run.due(0, "works", 3, 24, 30, 2);
        run.due(6, "works", 0, 24, 30, 0);
        run.due(6, "works", 3, 24, 30, 2);
        run.due(1, "card", 1, 2, 0, 0);
        run.due(9, "send", 0);
        run.due(13, "count", 6);
    }
}
