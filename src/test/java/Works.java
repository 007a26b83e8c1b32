/** Makes works in a state that several tests begin with. */
final class Works {
    private Works() {
    }

    /** A row of six places of one thickness. */
    static int row(int thickness) {
        return 0x111111 * thickness;
    }

    /** A shell of that many rows of six places, all of one thickness. */
    static int even(ButtonWorks works, int rows, int tint, int thickness) {
        int r = row(thickness);
        return works.shell(rows, 6, tint, r, r, r, r, r, r);
    }

    /** Buttons of size 1 out of a shell of one thickness, six from each row. */
    static int smallButtons(ButtonWorks works, int rows, int tint, int thickness) {
        works.list(1, thickness, 1);
        int shell = even(works, rows, tint, thickness);
        works.cut(shell);
        return shell;
    }

    /** Works whose machines break nothing. */
    static ButtonWorks strong() {
        ButtonWorks works = new ButtonWorks();
        for (int machine = 0; machine < 6; machine++) {
            works.stands(machine, 10000);
        }
        return works;
    }

    static void turnAndDrill(ButtonWorks works, int from, int to, int holes) {
        works.works(0, from, to, 0);
        works.works(3, from, to, holes);
    }

    /** That many cards of size 1 with two holes, of the told tint and thickness. */
    static void smallCards(ButtonWorks works, int cards, int tint, int thickness) {
        for (int i = 0; i < cards; i++) {
            int first = works.count(1);
            smallButtons(works, 2, tint, thickness);
            turnAndDrill(works, first, first + 12, 2);
            works.card(1, 2, tint, 0);
        }
    }
}
