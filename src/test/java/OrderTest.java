/** Promises 18 to 21: order, send, sent, count. */
public final class OrderTest {
    private static final Check CHECK = new Check();

    public static void main(String[] args) {
        promise18();
        promise18Thirty();
        promise19Pay();
        promise19ByDays();
        promise19Fit();
        promise19Wrong();
        promise20();
        promise21();
        CHECK.finish();
    }

    private static void promise18() {
        ButtonWorks works = new ButtonWorks();
        CHECK.due("least of all", 0, works.order(1, 1, 2, 0, 0, 0, 0));
        CHECK.due("greatest of all", 1, works.order(9, 3, 4, 9, 9, 999, 999));
        CHECK.due("4 holes of size 1 can be ordered", 2, works.order(1, 1, 4, 0, 9, 0, 0));
        int[][] wrong = {{0, 1, 2, 0, 0, 0, 0}, {10, 1, 2, 0, 0, 0, 0}, {1, 0, 2, 0, 0, 0, 0}, {1, 4, 2, 0, 0, 0, 0},
            {1, 1, 0, 0, 0, 0, 0}, {1, 1, 3, 0, 0, 0, 0}, {1, 1, 2, -1, 0, 0, 0}, {1, 1, 2, 10, 10, 0, 0},
            {1, 1, 2, 0, 10, 0, 0}, {1, 1, 2, 0, -1, 0, 0}, {1, 1, 2, 5, 4, 0, 0}, {1, 1, 2, 0, 0, -1, 0},
            {1, 1, 2, 0, 0, 1000, 0}, {1, 1, 2, 0, 0, 0, -1}, {1, 1, 2, 0, 0, 0, 1000}};
        for (int[] w : wrong) {
            CHECK.due("a wrong number", -1, works.order(w[0], w[1], w[2], w[3], w[4], w[5], w[6]));
        }
        CHECK.due("count(3)", 3, works.count(3));
        CHECK.due("the next", 3, works.order(1, 1, 2, 4, 5, 0, 0));
    }

    private static void promise18Thirty() {
        ButtonWorks works = new ButtonWorks();
        for (int i = 0; i < 30; i++) {
            CHECK.due("order " + i, i, works.order(1, 1, 2, 0, 9, 30 - i, 1));
        }
        CHECK.due("one more", -1, works.order(1, 1, 2, 0, 9, 0, 1));
        CHECK.due("count(3)", 30, works.count(3));
        CHECK.due("sent(29)", -1, works.sent(29));
        Works.smallCards(works, 1, 0, 1);
        CHECK.due("the last one is due first", 1, works.send(1));
        CHECK.due("sent(29)", 1, works.sent(29));
        CHECK.due("sent(0)", -1, works.sent(0));
    }

    private static void promise19Pay() {
        ButtonWorks works = Works.strong();
        Works.smallCards(works, 6, 0, 1);
        works.order(2, 1, 2, 0, 0, 10, 7);
        CHECK.due("on its day", 14, works.send(10));
        works.order(2, 1, 2, 0, 0, 10, 7);
        CHECK.due("behind its day, half of 7 cut down", 6, works.send(11));
        works.order(1, 1, 2, 0, 0, 999, 999);
        CHECK.due("before its day", 999, works.send(0));
        works.order(1, 1, 2, 0, 0, 0, 999);
        CHECK.due("on the last day", 499, works.send(2000));
        works.order(1, 1, 2, 0, 0, 0, 999);
        CHECK.due("no card is left", 0, works.send(0));
        CHECK.due("in all", 14 + 6 + 999 + 499, works.count(6));
    }

    private static void promise19ByDays() {
        ButtonWorks works = Works.strong();
        Works.smallCards(works, 4, 0, 1);
        works.order(1, 1, 2, 0, 9, 8, 100);
        works.order(3, 1, 2, 0, 9, 3, 10);
        works.order(1, 1, 2, 0, 9, 3, 1);
        works.order(2, 1, 2, 0, 9, 2, 5);
        CHECK.due("2, then 3 (too many), then 3, then 8", 10 + 1 + 100, works.send(0));
        CHECK.due("card 0", 3, works.cardOf(0, 5));
        CHECK.due("card 1", 3, works.cardOf(1, 5));
        CHECK.due("card 2", 2, works.cardOf(2, 5));
        CHECK.due("card 3", 0, works.cardOf(3, 5));
        CHECK.due("not sent", -1, works.sent(1));
        Works.smallCards(works, 3, 0, 1);
        CHECK.due("later, when there are enough", 15, works.send(4));
        CHECK.due("sent", 4, works.sent(1));
        CHECK.due("the others stay", 0, works.sent(0));

        ButtonWorks like = Works.strong();
        Works.smallCards(like, 1, 0, 1);
        like.order(1, 1, 2, 0, 9, 5, 3);
        like.order(1, 1, 2, 0, 9, 5, 900);
        CHECK.due("of like days by number", 3, like.send(5));
        CHECK.due("not the second", -1, like.sent(1));
    }

    private static void promise19Fit() {
        ButtonWorks works = Works.strong();
        Works.smallCards(works, 1, 3, 1);
        Works.smallCards(works, 1, 5, 1);
        Works.smallCards(works, 1, 8, 1);
        works.order(1, 2, 2, 0, 9, 0, 1);
        works.order(1, 1, 4, 0, 9, 0, 1);
        works.order(1, 1, 2, 4, 4, 0, 1);
        works.order(2, 1, 2, 4, 7, 0, 1);
        works.order(1, 1, 2, 6, 7, 0, 1);
        CHECK.due("none fits", 0, works.send(0));
        works.order(2, 1, 2, 5, 8, 0, 20);
        CHECK.due("both ends are in it", 40, works.send(0));
        CHECK.due("tint 3", -1, works.cardOf(0, 5));
        CHECK.due("tint 5", 5, works.cardOf(1, 5));
        CHECK.due("tint 8", 5, works.cardOf(2, 5));
    }

    private static void promise19Wrong() {
        ButtonWorks works = new ButtonWorks();
        CHECK.badArgument("day -1", () -> works.send(-1));
        CHECK.badArgument("day 2001", () -> works.send(2001));
        CHECK.due("day 0", 0, works.send(0));
        CHECK.due("day 2000", 0, works.send(2000));
    }

    private static void promise20() {
        ButtonWorks works = Works.strong();
        Works.smallCards(works, 1, 0, 1);
        works.order(1, 1, 2, 0, 0, 50, 1);
        CHECK.due("not sent", -1, works.sent(0));
        works.send(1234);
        CHECK.due("sent", 1234, works.sent(0));
        works.send(0);
        CHECK.due("sent once", 1234, works.sent(0));
        CHECK.noSuch("order 1", () -> works.sent(1));
        CHECK.noSuch("order -1", () -> works.sent(-1));
    }

    private static void promise21() {
        ButtonWorks works = Works.strong();
        Works.smallCards(works, 2, 0, 1);
        Works.smallButtons(works, 3, 0, 2);
        works.stands(1, 1);
        works.works(1, 24, 42, 0);
        works.order(1, 1, 2, 0, 0, 5, 21);
        works.order(1, 1, 2, 0, 0, 4, 31);
        works.order(1, 1, 2, 0, 0, 4, 31);
        works.send(5);
        CHECK.due("shells", 3, works.count(0));
        CHECK.due("buttons", 42, works.count(1));
        CHECK.due("cards", 2, works.count(2));
        CHECK.due("orders", 3, works.count(3));
        CHECK.due("broken, 7, 21 and 35 above", 3, works.count(4));
        CHECK.due("broken by the machine", 3, works.machine(1, 3));
        CHECK.due("on cards", 24, works.count(5));
        CHECK.due("paid", 30, works.count(6));
        CHECK.noSuch("what 7", () -> works.count(7));
        CHECK.noSuch("what -1", () -> works.count(-1));
    }
}
