/** The boundary cases of shells, the list and the cut: promises 1 to 7 and the terms that they use. */
public final class ShellBoundsTest {
    private static final Check CHECK = new Check();
    private static final int LEAST = Integer.MIN_VALUE;
    private static final int MOST = Integer.MAX_VALUE;

    public static void main(String[] args) {
        noShellsNoOrders();
        rowsOneToSix();
        columnsOneToSix();
        tintNoughtToNine();
        thicknessNoughtToNine();
        nothingIsAskedBeyondTheLastColumn();
        nothingIsAskedBeyondTheLastRow();
        atMostThirtyShells();
        noSuchShellAsEverywhere();
        noOtherWhatOfAShell();
        listSizeOneToThree();
        listThicknessOneToNine();
        listWorthNoughtTo999();
        CHECK.finish();
    }

    private static Run run(String sentence) {
        return new Run(CHECK, sentence);
    }

    private static void noShellsNoOrders() {
        Run run = run("A new object: No SHELLS, ORDERS");
        for (int what = 0; what <= 6; what++) {
            run.due(0, "count", what);
        }
        run.noSuch("shellOf", 0, 0);
        run.noSuch("best", 0, 0);
        run.noSuch("bestAt", 0, 0);
        run.noSuch("cut", 0);
        run.noSuch("bleach", 0, 0);
        run.noSuch("button", 0, 0);
        run.noSuch("work", 0, 0, 2);
        run.noSuch("cardOf", 0, 0);
        run.noSuch("onCard", 0, 0);
        run.noSuch("sent", 0);
        run.none("card", 1, 2, 0, 8);
        run.due(0, "works", 0, 0, 400, 2);
        run.due(0, "works", 5, 0, 0, 2);
        run.due(0, "grind", 0);
        run.due(0, "send", 0);
        run.due(0, "shell", 1, 1, 0, 1);
        run.due(0, "order", 1, 1, 2, 0, 0, 0, 0);
    }

    private static void rowsOneToSix() {
        Run run = run("A SHELL has ROWS (1 to 6)");
        run.due(0, "shell", 1, 3, 0, 0x111);
        run.due(1, "shell", 6, 3, 0, 0x111, 0x111, 0x111, 0x111, 0x111, 0x111);
        for (int rows : new int[] {LEAST, -1, 0, 7, 8, MOST}) {
            run.none("shell", rows, 3, 0, 0x111);
        }
        run.due(1, "shellOf", 0, 0);
        run.due(6, "shellOf", 1, 0);
        run.due(2, "shell", 2, 3, 0, 0x111);
    }

    private static void columnsOneToSix() {
        Run run = run("A SHELL has COLUMNS (1 to 6)");
        run.due(0, "shell", 3, 1, 0, 1, 1, 1);
        run.due(1, "shell", 3, 6, 0, 0x111111, 0x111111, 0x111111);
        for (int columns : new int[] {LEAST, -1, 0, 7, 8, MOST}) {
            run.none("shell", 3, columns, 0, 0x11111111, 0x11111111, 0x11111111);
        }
        run.due(1, "shellOf", 0, 1);
        run.due(6, "shellOf", 1, 1);
        run.due(2, "shell", 3, 2, 0, 1, 1, 1);
    }

    private static void tintNoughtToNine() {
        Run run = run("A SHELL has a TINT (0 to 9)");
        run.due(0, "shell", 1, 1, 0, 1);
        run.due(1, "shell", 1, 1, 9, 1);
        for (int tint : new int[] {LEAST, -1, 10, 11, MOST}) {
            run.none("shell", 1, 1, tint, 1);
        }
        run.due(0, "shellOf", 0, 2);
        run.due(9, "shellOf", 1, 2);
        run.due(2, "shell", 1, 1, 5, 1);
    }

    /** Each place of a shell of six by six, with 9 (right) and with 10 to 15 (above 9). */
    private static void thicknessNoughtToNine() {
        for (int row = 0; row < 6; row++) {
            Run run = run("in each place a THICKNESS (0 to 9), row " + row);
            run.does("list", 1, 9, 1);
            for (int column = 0; column < 6; column++) {
                int[] a = {6, 6, 0, 0, 0, 0, 0, 0, 0};
                a[3 + row] = 9 << (4 * column);
                run.due(column, "shell", a);
                run.due(1, "best", column, 0);
                run.due(1, "bestAt", column, 6 * row + column);
                for (int thickness = 10; thickness <= 15; thickness++) {
                    int[] wrong = {6, 6, 0, 0, 0, 0, 0, 0, 0};
                    wrong[3 + row] = thickness << (4 * column);
                    run.none("shell", wrong);
                }
            }
        }
        Run run = run("THICKNESS 0 nothing or a flaw");
        run.due(0, "shell", 6, 6, 0, 0, 0, 0, 0, 0, 0);
        run.does("list", 1, 1, 999);
        run.due(0, "best", 0, 0);
        run.due(0, "best", 0, 1);
        run.due(0, "cut", 0);
    }

    private static void nothingIsAskedBeyondTheLastColumn() {
        Run run = run("of places beyond the last COLUMN nothing is asked");
        run.does("list", 1, 1, 1);
        for (int columns = 1; columns <= 6; columns++) {
            int places = (1 << (4 * columns)) - 1;
            int beyond = ~places;
            run.due(columns - 1, "shell", 1, columns, 0, beyond | places & 0x111111);
            run.due(columns, "best", columns - 1, 0);
            run.none("shell", 1, columns, 0, 10 << (4 * columns - 4));
        }
    }

    private static void nothingIsAskedBeyondTheLastRow() {
        Run run = run("of rows beyond the last ROW nothing is asked");
        run.does("list", 1, 1, 1);
        for (int rows = 1; rows <= 6; rows++) {
            int[] a = {rows, 1, 0, -1, -1, -1, -1, -1, -1};
            for (int row = 0; row < rows; row++) {
                a[3 + row] = 1;
            }
            run.due(rows - 1, "shell", a);
            run.due(rows, "best", rows - 1, 0);
            a[3 + rows - 1] = 10;
            run.none("shell", a);
        }
    }

    private static void atMostThirtyShells() {
        Run run = run("SHELLS are numbered from 0 on, at most 30");
        run.does("list", 1, 2, 3);
        for (int i = 0; i < 30; i++) {
            run.due(i, "shell", 1, 1 + i % 6, i % 10, 0x222222);
        }
        run.none("shell", 1, 1, 0, 2);
        run.none("shell", 6, 6, 9, 0, 0, 0, 0, 0, 0);
        run.due(30, "count", 0);
        run.due(9, "shellOf", 29, 2);
        run.noSuch("shellOf", 30, 0);
        run.due(6, "cut", 29);
        run.none("shell", 1, 1, 0, 2);
    }

    private static void noSuchShellAsEverywhere() {
        Run run = run("NoSuchElementException: no such SHELL (as everywhere)");
        run.busy();
        for (int shell : new int[] {LEAST, -1, Run.BUSY_SHELLS, 30, MOST}) {
            run.noSuch("shellOf", shell, 0);
            run.noSuch("best", shell, 0);
            run.noSuch("bestAt", shell, 0);
            run.noSuch("cut", shell);
            run.noSuch("bleach", shell, 1);
        }
        int last = Run.BUSY_SHELLS - 1;
        run.due(2, "shellOf", 0, 0);
        run.due(2, "shellOf", last, 0);
        run.due(3 * 77, "best", 0, 0);
        run.due(77, "best", last, 0);
        run.due(2, "bestAt", 0, 0);
        run.due(2, "bestAt", last, 0);
        run.due(0, "bleach", 0, 1);
        run.due(0, "bleach", last, 1);
        run.due(1, "cut", last);
    }

    private static void noOtherWhatOfAShell() {
        Run run = run("Of a SHELL: 0 ROWS, 1 COLUMNS, 2 TINT, 3 whether it is CUT (1); no such what");
        run.busy();
        int[] dueOfCut = {2, 6, 5, 1};
        int[] dueOfUncut = {2, 2, 2, 0};
        for (int what = 0; what <= 3; what++) {
            run.due(dueOfCut[what], "shellOf", 0, what);
            run.due(dueOfUncut[what], "shellOf", Run.BUSY_UNCUT, what);
        }
        for (int what : new int[] {LEAST, -1, 4, 5, MOST}) {
            run.noSuch("shellOf", 0, what);
        }
    }

    private static void listSizeOneToThree() {
        Run run = run("THE LIST: IllegalArgumentException: no such SIZE (1 to 3)");
        run.due(0, "list", 1, 5, 11);
        run.due(0, "list", 3, 5, 33);
        for (int size : new int[] {LEAST, -1, 0, 4, 5, MOST}) {
            run.badArgument("list", size, 5, 7);
        }
        run.due(11, "list", 1, 5, 11);
        run.due(0, "list", 2, 5, 22);
        run.due(33, "list", 3, 5, 33);
    }

    private static void listThicknessOneToNine() {
        Run run = run("THE LIST: IllegalArgumentException: no such THICKNESS (1 to 9)");
        for (int size = 1; size <= 3; size++) {
            run.due(0, "list", size, 1, 10 + size);
            run.due(0, "list", size, 9, 90 + size);
            for (int thickness : new int[] {LEAST, -1, 0, 10, 11, MOST}) {
                run.badArgument("list", size, thickness, 7);
            }
        }
        for (int size = 1; size <= 3; size++) {
            run.due(10 + size, "list", size, 1, 0);
            run.due(90 + size, "list", size, 9, 0);
        }
    }

    private static void listWorthNoughtTo999() {
        Run run = run("THE LIST: a WORTH (0 to 999; 0 at first): what it was");
        for (int size = 1; size <= 3; size++) {
            for (int thickness = 1; thickness <= 9; thickness++) {
                run.due(0, "list", size, thickness, 0);
            }
        }
        run.due(0, "list", 2, 6, 999);
        for (int worth : new int[] {LEAST, -1, 1000, 1001, MOST}) {
            run.badArgument("list", 2, 6, worth);
            run.badArgument("list", 1, 1, worth);
        }
        run.due(999, "list", 2, 6, 0);
        run.due(0, "list", 2, 6, 1);
        run.due(1, "list", 2, 6, 1);
        run.badArgument("list", 0, 0, -1);
    }
}
