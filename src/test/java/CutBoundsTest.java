/** The boundary cases of blanks and the cut: promises 5 to 7 and the terms that they use. */
public final class CutBoundsTest {
    private static final Check CHECK = new Check();
    private static final int LEAST = Integer.MIN_VALUE;
    private static final int MOST = Integer.MAX_VALUE;

    public static void main(String[] args) {
        aBlankIsWithinTheShell();
        aBlankDoesNotGoRoundToTheNextRow();
        noBlankOfAGreaterSize();
        noneOfThicknessNought();
        theLeastThickness();
        noPlaceInCommon();
        theGreatestSum();
        fewerBlanks();
        noBlankWithoutWorth();
        theFirstOfLikeOnes();
        noOtherWhatOfACut();
        noSuchPlace();
        wouldHaveNow();
        aShellIsCutOnce();
        inOrderOfTheirPlaces();
        atMostFourHundredButtons();
        upToThe512thCall();
        CHECK.finish();
    }

    private static Run run(String sentence) {
        return new Run(CHECK, sentence);
    }

    private static void aBlankIsWithinTheShell() {
        for (int size = 1; size <= 3; size++) {
            Run run = run("A BLANK of SIZE n is n by n places, n is " + size);
            run.does("list", size, 2, 8);
            int shells = 0;
            for (int rows = 1; rows <= 6; rows++) {
                for (int columns = 1; columns <= 3; columns++) {
                    int blanks = (rows / size) * (columns / size);
                    int r = 0x222222;
                    run.due(shells, "shell", rows, columns, 0, r, r, r, r, r, r);
                    run.due(8 * blanks, "best", shells, 0);
                    run.due(blanks, "best", shells, 1);
                    shells++;
                }
            }
        }
    }

    /** Places that would be a square if the row's end were followed by the next row. */
    private static void aBlankDoesNotGoRoundToTheNextRow() {
        Run run = run("A BLANK of SIZE n is n by n places: not over the end of a row");
        run.does("list", 2, 1, 5);
        run.due(0, "shell", 3, 3, 0, 0x100, 0x101, 0x001);
        run.due(1, "shell", 3, 6, 0, 0x100000, 0x100001, 0x000001);
        run.due(0, "best", 0, 0);
        run.due(0, "best", 1, 0);
        run.due(2, "shell", 2, 6, 0, 0x110000, 0x110000);
        run.due(5, "best", 2, 0);
        run.due(2, "bestAt", 2, 4);
        run.does("list", 2, 1, 0);
        run.does("list", 3, 1, 6);
        run.due(3, "shell", 4, 6, 0, 0x110000, 0x110001, 0x110001, 0x000001);
        run.due(4, "shell", 4, 6, 0, 0x100000, 0x100011, 0x100011, 0x000011);
        run.due(0, "best", 3, 0);
        run.due(0, "best", 4, 0);
        run.due(5, "shell", 6, 6, 0, 0, 0, 0, 0x111000, 0x111000, 0x111000);
        run.due(6, "best", 5, 0);
        run.due(3, "bestAt", 5, 21);
    }

    private static void noBlankOfAGreaterSize() {
        Run run = run("A BLANK of SIZE n (1 to 3)");
        run.does("list", 3, 1, 999);
        run.due(0, "shell", 4, 4, 0, 0x1111, 0x1111, 0x1111, 0x1111);
        run.due(999, "best", 0, 0);
        run.due(1, "best", 0, 1);
        run.even(6, 0, 1);
        run.due(4 * 999, "best", 1, 0);
        for (int place = 0; place < 36; place++) {
            boolean begins = place == 0 || place == 3 || place == 18 || place == 21;
            run.due(begins ? 3 : 0, "bestAt", 1, place);
        }
    }

    /** A square of a size with a flaw in one place after the other. */
    private static void noneOfThicknessNought() {
        for (int size = 1; size <= 3; size++) {
            Run run = run("none of THICKNESS 0, SIZE " + size);
            for (int thickness = 1; thickness <= 9; thickness++) {
                run.does("list", size, thickness, 100);
            }
            for (int flaw = 0; flaw < size * size; flaw++) {
                run.due(flaw, "shell", square(size, 6, flaw, 0));
                run.due(0, "best", flaw, 0);
                run.due(0, "best", flaw, 1);
                run.due(0, "cut", flaw);
            }
            run.due(size * size, "shell", square(size, 6, 0, 1));
            run.due(100, "best", size * size, 0);
        }
    }

    /** A square of a size that is thinner in one place after the other. */
    private static void theLeastThickness() {
        for (int size = 1; size <= 3; size++) {
            Run run = run("its own THICKNESS is the least of them, SIZE " + size);
            run.does("list", size, 9, 900);
            run.does("list", size, 8, 1);
            run.does("list", size, 1, 2);
            for (int thin = 0; thin < size * size; thin++) {
                run.due(2 * thin, "shell", square(size, 9, thin, 8));
                run.due(1, "best", 2 * thin, 0);
                run.due(1, "cut", 2 * thin);
                run.due(8, "button", 2 * thin, 1);
                run.due(2 * thin + 1, "shell", square(size, 9, thin, 1));
                run.due(2, "best", 2 * thin + 1, 0);
                run.due(1, "cut", 2 * thin + 1);
                run.due(1, "button", 2 * thin + 1, 1);
            }
        }
    }

    private static int[] square(int size, int thickness, int otherPlace, int otherThickness) {
        int[] a = new int[3 + size];
        a[0] = size;
        a[1] = size;
        for (int place = 0; place < size * size; place++) {
            a[3 + place / size] |= (place == otherPlace ? otherThickness : thickness) << (4 * (place % size));
        }
        return a;
    }

    private static void noPlaceInCommon() {
        Run run = run("BLANKS that have no place in common");
        run.does("list", 2, 1, 10);
        run.due(0, "shell", 2, 3, 0, 0x111, 0x111);
        run.due(10, "best", 0, 0);
        run.due(1, "shell", 3, 3, 0, 0x111, 0x111, 0x111);
        run.due(10, "best", 1, 0);
        run.due(2, "shell", 2, 4, 0, 0x1111, 0x1111);
        run.due(20, "best", 2, 0);
        run.does("list", 3, 1, 15);
        run.due(3, "shell", 3, 4, 0, 0x1111, 0x1111, 0x1111);
        run.due(20, "best", 3, 0);
        run.due(4, "shell", 3, 5, 0, 0x11111, 0x11111, 0x11111);
        run.due(25, "best", 4, 0);
        run.due(5, "shell", 5, 3, 0, 0x111, 0x111, 0x111, 0x111, 0x111);
        run.due(25, "best", 5, 0);
        // The two have but the corner in common: the last place of the one is the first of the other.
        run.does("list", 2, 1, 0);
        run.due(6, "shell", 5, 5, 0, 0x00111, 0x00111, 0x11111, 0x11100, 0x11100);
        run.due(15, "best", 6, 0);
        run.due(7, "shell", 6, 6, 0, 0x000111, 0x000111, 0x000111, 0x111000, 0x111000, 0x111000);
        run.due(30, "best", 7, 0);

        Run beside = run("BLANKS that have no place in common: below on the left, and between two");
        beside.does("list", 1, 1, 1);
        beside.does("list", 2, 1, 10);
        beside.does("list", 3, 1, 50);
        beside.due(0, "shell", 2, 3, 0, 0x110, 0x111);
        sizes(beside, 0, 0, 2, 0, 1, 0, 0);
        beside.due(1, "shell", 2, 5, 0, 0x11011, 0x11111);
        sizes(beside, 1, 2, 0, 0, 2, 0, 0, 0, 1, 0, 0);
        beside.due(2, "shell", 3, 5, 0, 0x11100, 0x11111, 0x11111);
        sizes(beside, 2, 0, 0, 3, 0, 0, 2, 0, 0, 0, 0, 0, 0, 0, 0, 0);
        beside.due(3, "shell", 3, 6, 0, 0x111000, 0x111110, 0x111111);
        sizes(beside, 3, 0, 0, 0, 3, 0, 0, 0, 2, 0, 0, 0, 0, 1, 0, 0, 0, 0, 0);
    }

    private static void theGreatestSum() {
        Run run = run("of the greatest sum of WORTHS");
        run.even(6, 0, 1);
        run.does("list", 1, 1, 1);
        run.does("list", 3, 1, 8);
        run.due(36, "best", 0, 0);
        run.due(36, "best", 0, 1);
        // One worth more stands against any number of blanks.
        run.does("list", 2, 1, 3);
        run.due(36, "best", 0, 0);
        run.due(36, "best", 0, 1);
        run.does("list", 3, 1, 10);
        run.due(40, "best", 0, 0);
        run.due(4, "best", 0, 1);
        run.due(1, "shell", 6, 6, 0, 0x111111, 0x111111, 0x111111, 0x111111, 0x211111, 0x111111);
        run.does("list", 3, 1, 9);
        run.does("list", 1, 2, 2);
        run.due(37, "best", 1, 0);
        run.due(12, "best", 1, 1);
        run.does("list", 1, 1, 999);
        run.due(36 * 999, "best", 0, 0);
        run.does("list", 1, 1, 0);
        run.does("list", 2, 1, 999);
        run.does("list", 3, 1, 999);
        run.due(9 * 999, "best", 0, 0);
        run.due(9, "best", 0, 1);
    }

    private static void fewerBlanks() {
        Run run = run("of like ones that of fewer BLANKS");
        run.even(6, 0, 1);
        run.does("list", 1, 1, 1);
        run.does("list", 2, 1, 4);
        run.due(36, "best", 0, 0);
        run.due(9, "best", 0, 1);
        run.does("list", 3, 1, 9);
        run.due(36, "best", 0, 0);
        run.due(4, "best", 0, 1);
        // One blank fewer is enough.
        run.due(1, "shell", 2, 2, 0, 0x11, 0x22);
        run.does("list", 2, 1, 2);
        run.due(2, "best", 1, 0);
        run.due(1, "best", 1, 1);
        run.does("list", 2, 1, 1);
        run.due(2, "best", 1, 1);
        // Fewer blanks are ahead though the greater number stands first in the other cut.
        run.due(2, "shell", 2, 3, 0, 0x443, 0x443);
        run.does("list", 1, 4, 1);
        run.does("list", 2, 3, 10);
        run.does("list", 2, 4, 12);
        run.due(12, "best", 2, 0);
        sizes(run, 2, 0, 2, 0, 0, 0, 0);
        run.does("list", 2, 4, 11);
        run.due(12, "best", 2, 0);
        sizes(run, 2, 2, 0, 1, 0, 0, 1);
    }

    private static void noBlankWithoutWorth() {
        Run run = run("a BLANK of WORTH 0 is in no CUT, that has fewer BLANKS without it");
        run.even(6, 0, 1);
        run.due(0, "best", 0, 0);
        run.due(0, "best", 0, 1);
        run.does("list", 2, 1, 1);
        run.due(9, "best", 0, 1);
        run.does("list", 2, 1, 0);
        run.due(0, "best", 0, 1);
        for (int place = 0; place < 36; place++) {
            run.due(0, "bestAt", 0, place);
        }
        run.due(0, "cut", 0);
        run.due(0, "count", 1);
    }

    private static void theFirstOfLikeOnes() {
        Run run = run("of like ones the first: where two CUTS part first the greater number is ahead");
        run.does("list", 2, 1, 10);
        run.due(0, "shell", 3, 3, 0, 0x111, 0x111, 0x111);
        sizes(run, 0, 2, 0, 0, 0, 0, 0, 0, 0, 0);
        run.due(1, "shell", 3, 3, 0, 0x110, 0x111, 0x111);
        sizes(run, 1, 0, 2, 0, 0, 0, 0, 0, 0, 0);
        run.due(2, "shell", 3, 3, 0, 0x010, 0x111, 0x111);
        sizes(run, 2, 0, 0, 0, 2, 0, 0, 0, 0, 0);
        run.due(3, "shell", 3, 3, 0, 0x010, 0x111, 0x110);
        sizes(run, 3, 0, 0, 0, 0, 2, 0, 0, 0, 0);
        run.does("list", 3, 1, 10);
        sizes(run, 0, 3, 0, 0, 0, 0, 0, 0, 0, 0);
        run.does("list", 3, 1, 0);
        run.does("list", 1, 1, 1);
        run.due(4, "shell", 2, 3, 0, 0x111, 0x111);
        sizes(run, 4, 2, 0, 1, 0, 0, 1);
        run.due(5, "shell", 3, 2, 0, 0x11, 0x11, 0x11);
        sizes(run, 5, 2, 0, 0, 0, 1, 1);
        run.due(6, "shell", 2, 5, 0, 0x11111, 0x11111);
        sizes(run, 6, 2, 0, 2, 0, 1, 0, 0, 0, 0, 1);
    }

    private static void sizes(Run run, int shell, int... due) {
        for (int place = 0; place < due.length; place++) {
            run.due(due[place], "bestAt", shell, place);
        }
    }

    private static void noOtherWhatOfACut() {
        Run run = run("Of THE CUT: 0 its worth, 1 how many BLANKS; another what");
        run.busy();
        run.due(3 * 77, "best", 0, 0);
        run.due(3, "best", 0, 1);
        run.due(77, "best", Run.BUSY_UNCUT, 0);
        run.due(1, "best", Run.BUSY_UNCUT, 1);
        for (int what : new int[] {LEAST, -1, 2, 3, MOST}) {
            run.noSuch("best", Run.BUSY_UNCUT, what);
        }
    }

    private static void noSuchPlace() {
        Run run = run("the SIZE told for a place (row by row, COLUMNS in each); no such place");
        int[][] sides = {{1, 1}, {1, 6}, {6, 1}, {2, 3}, {3, 2}, {5, 5}, {6, 6}};
        run.does("list", 1, 1, 1);
        for (int shell = 0; shell < sides.length; shell++) {
            int r = 0x111111;
            int places = sides[shell][0] * sides[shell][1];
            run.due(shell, "shell", sides[shell][0], sides[shell][1], 0, r, r, r, r, r, r);
            run.due(1, "bestAt", shell, 0);
            run.due(1, "bestAt", shell, places - 1);
            for (int place : new int[] {LEAST, -1, places, places + 1, 36, MOST}) {
                run.noSuch("bestAt", shell, place);
            }
        }
        run.due(7, "shell", 2, 3, 0, 0x210, 0x043);
        run.does("list", 1, 2, 1);
        run.does("list", 1, 4, 1);
        sizes(run, 7, 0, 1, 1, 0, 1, 0);
    }

    private static void wouldHaveNow() {
        Run run = run("THE CUT that a SHELL would have now");
        run.blanks(1, 0, 4);
        run.does("list", 1, 4, 0);
        run.due(0, "best", 0, 0);
        run.due(0, "bestAt", 0, 0);
        run.does("list", 1, 4, 999);
        run.due(6 * 999, "best", 0, 0);
        run.due(1, "bestAt", 0, 0);
        run.badArgument("list", 1, 4, 1000);
        run.due(6 * 999, "best", 0, 0);
        run.due(6, "count", 1);
    }

    private static void aShellIsCutOnce() {
        Run run = run("a SHELL is CUT once; NONE, and nothing changes: it was");
        run.busy();
        run.none("cut", 0);
        run.none("cut", 2);
        run.due(0, "shellOf", Run.BUSY_UNCUT, 3);
        run.due(1, "cut", Run.BUSY_UNCUT);
        run.due(1, "shellOf", Run.BUSY_UNCUT, 3);
        run.none("cut", Run.BUSY_UNCUT);
        run.does("list", 1, 5, 500);
        run.none("cut", Run.BUSY_UNCUT);
        // A cut without buttons is a cut too.
        run.due(4, "shell", 1, 1, 0, 0);
        run.due(0, "cut", 4);
        run.due(1, "shellOf", 4, 3);
        run.none("cut", 4);
    }

    private static void inOrderOfTheirPlaces() {
        Run run = run("gives BUTTONS, those of THE CUT, in order of their places, numbered from 0 on");
        run.does("list", 2, 7, 100);
        run.does("list", 1, 7, 10);
        run.does("list", 1, 9, 1);
        run.due(0, "shell", 3, 5, 6, 0x77777, 0x78777, 0x00090);
        run.due(5, "cut", 0);
        int[] places = {0, 2, 4, 9, 11};
        for (int button = 0; button < 5; button++) {
            run.due(places[button], "button", button, 8);
            run.due(0, "button", button, 3);
        }
        run.due(1, "shell", 1, 1, 3, 9);
        run.due(1, "cut", 1);
        run.due(0, "button", 5, 8);
        run.due(1, "button", 5, 3);
        run.noSuch("button", 6, 0);
    }

    private static void atMostFourHundredButtons() {
        Run run = run("BUTTONS, at most 400; NONE, and nothing changes: there would be more than 400");
        run.does("list", 1, 1, 1);
        for (int shell = 0; shell < 11; shell++) {
            run.even(6, 0, 1);
            run.due(36, "cut", shell);
        }
        run.due(11, "shell", 1, 5, 0, 0x11111);
        run.due(12, "shell", 1, 4, 0, 0x1111);
        run.due(13, "shell", 1, 1, 0, 0x1);
        run.none("cut", 11);
        run.due(4, "cut", 12);
        run.due(400, "count", 1);
        run.due(3, "button", 399, 8);
        run.noSuch("button", 400, 0);
        run.noSuch("work", 0, 400, 0);
        run.none("cut", 11);
        run.none("cut", 13);
        run.does("list", 1, 1, 0);
        run.due(0, "cut", 13);
        run.due(0, "cut", 11);
        run.due(400, "count", 1);
    }

    private static void upToThe512thCall() {
        Run run = run("An object is used for at most 512 calls");
        run.even(6, 0, 1);
        run.due(0, "list", 1, 1, 1);
        for (int worth = 2; worth <= 256; worth++) {
            run.due(36 * (worth - 1), "best", 0, 0);
            run.due(worth - 1, "list", 1, 1, worth);
        }
    }
}
