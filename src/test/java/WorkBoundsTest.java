/** The boundary cases of buttons, machines and bleaching: promises 8 to 14 and the terms that they use. */
public final class WorkBoundsTest {
    private static final Check CHECK = new Check();
    private static final int LEAST = Integer.MIN_VALUE;
    private static final int MOST = Integer.MAX_VALUE;

    public static void main(String[] args) {
        noSuchButton();
        noOtherWhatOfAButton();
        placeByTheShellsOwnColumns();
        standsOneTo10000();
        standsAtFirst100();
        noSuchMachineAsEverywhere();
        threeTurnThreeDrill();
        holesAreAskedOfThoseThatDrillAlone();
        theStateIsNotRight();
        holesTwoOrFour();
        fourHolesOnlyOfSizeTwoAndThree();
        wearByTheThicknessFirst();
        notAboveWhatItStands();
        aMultipleOfSeven();
        aMultipleOfTheThickness();
        brokenByThatMachine();
        worksFromOneToAnotherNotThat();
        worksAsLongAsThereAreSuch();
        worksPassesBy();
        worksFromBelowNoughtOrAboveTo();
        groundAnew();
        noOtherWhatOfAMachine();
        hoursNoughtToNine();
        tintNotBelowNought();
        bleachedFromTheFirstToTheLast();
        bleachedAreNotTheBrokenOrThoseOnACard();
        CHECK.finish();
    }

    private static Run run(String sentence) {
        return new Run(CHECK, sentence);
    }

    private static void noSuchButton() {
        Run run = run("NoSuchElementException: no such BUTTON");
        run.busy();
        for (int button : new int[] {LEAST, -1, Run.BUSY_BUTTONS, Run.BUSY_BUTTONS + 1, 400, MOST}) {
            run.noSuch("button", button, 0);
            run.noSuch("work", 0, button, 2);
            run.noSuch("work", 3, button, 2);
        }
        run.due(1, "button", 0, 0);
        run.due(29, "button", Run.BUSY_BUTTONS - 1, 8);
    }

    private static void noOtherWhatOfAButton() {
        Run run = run("Of a BUTTON: 0 SIZE to 8 the place where it was cut; no such what");
        run.busy();
        buttonDue(run, Run.BUSY_ON_CARD, 1, 4, 5, 0, 4, 2, -1, 0, 0);
        buttonDue(run, Run.BUSY_DRILLED, 1, 3, 7, 2, 2, 2, -1, -1, 0);
        buttonDue(run, Run.BUSY_TURNED, 1, 3, 7, 2, 1, 0, -1, -1, 3);
        buttonDue(run, Run.BUSY_BLANK, 1, 3, 7, 2, 0, 0, -1, -1, 16);
        buttonDue(run, Run.BUSY_BROKEN_AT_DRILLING, 1, 3, 7, 2, 3, 0, 5, -1, 5);
        buttonDue(run, Run.BUSY_BROKEN_AT_TURNING, 1, 3, 7, 2, 3, 0, 2, -1, 28);
        for (int what : new int[] {LEAST, -1, 9, 10, MOST}) {
            run.noSuch("button", 0, what);
            run.noSuch("button", Run.BUSY_BLANK, what);
        }
    }

    private static void buttonDue(Run run, int button, int... due) {
        for (int what = 0; what < due.length; what++) {
            run.due(due[what], "button", button, what);
        }
    }

    private static void placeByTheShellsOwnColumns() {
        Run run = run("the place where it was cut (row by row, COLUMNS in each)");
        run.does("list", 1, 1, 1);
        for (int columns = 1; columns <= 6; columns++) {
            int last = 1 << (4 * columns - 4);
            run.due(columns - 1, "shell", 6, columns, 0, 1, 0, 0, 0, 0, last);
            run.due(2, "cut", columns - 1);
            run.due(0, "button", 2 * columns - 2, 8);
            run.due(6 * columns - 1, "button", 2 * columns - 1, 8);
        }
    }

    private static void standsOneTo10000() {
        Run run = run("What a MACHINE STANDS: IllegalArgumentException: v is not 1 to 10,000");
        for (int machine = 0; machine <= 5; machine++) {
            run.due(100, "stands", machine, 1);
            run.due(1, "stands", machine, 10000);
            run.due(10000, "stands", machine, 50 + machine);
            for (int v : new int[] {LEAST, -1, 0, 10001, 10002, MOST}) {
                run.badArgument("stands", machine, v);
            }
        }
        for (int machine = 0; machine <= 5; machine++) {
            run.due(50 + machine, "machine", machine, 1);
        }
    }

    private static void standsAtFirst100() {
        for (int machine = 0; machine <= 2; machine++) {
            Run run = run("each has WEAR (0 at first), and STANDS up to a WEAR (at first 100)");
            run.due(0, "machine", machine, 0);
            run.due(100, "machine", machine, 1);
            run.blanks(5, 0, 5);
            run.due(20, "works", machine, 0, 20, 0);
            run.due(100, "machine", machine, 0);
            run.due(0, "machine", machine, 3);
            run.due(0, "work", machine, 20, 0);
        }
        for (int machine = 3; machine <= 5; machine++) {
            Run run = run("each has WEAR (0 at first), and STANDS up to a WEAR (at first 100)");
            run.blanks(5, 0, 5);
            run.does("stands", 0, 10000);
            run.due(30, "works", 0, 0, 30, 0);
            run.due(0, "machine", machine, 0);
            run.due(20, "works", machine, 0, 20, 2);
            run.due(100, "machine", machine, 0);
            run.due(0, "work", machine, 20, 2);
        }
    }

    private static void noSuchMachineAsEverywhere() {
        Run run = run("NoSuchElementException: no such MACHINE (as everywhere)");
        run.busy();
        for (int machine : new int[] {LEAST, -1, 6, 7, MOST}) {
            run.noSuch("stands", machine, 50);
            run.noSuch("work", machine, Run.BUSY_BLANK, 2);
            run.noSuch("work", machine, Run.BUSY_TURNED, 2);
            run.noSuch("works", machine, 0, 54, 2);
            run.noSuch("works", machine, 0, 0, 2);
            run.noSuch("grind", machine);
            run.noSuch("machine", machine, 0);
        }
        run.noSuch("work", 6, Run.BUSY_BUTTONS, 2);
    }

    private static void threeTurnThreeDrill() {
        Run run = run("MACHINES 0 to 5: 0 to 2 turn, 3 to 5 drill");
        run.blanks(1, 0, 1);
        for (int machine = 0; machine <= 5; machine++) {
            if (machine >= 3) {
                run.none("work", machine, 5, 2);
            }
        }
        for (int machine = 0; machine <= 2; machine++) {
            run.due(1, "work", machine, machine, 2);
            run.due(1, "button", machine, 4);
            run.due(0, "button", machine, 5);
            for (int again = 0; again <= 2; again++) {
                run.none("work", again, machine, 2);
            }
        }
        for (int machine = 3; machine <= 5; machine++) {
            run.due(1, "work", machine, machine - 3, 2);
            run.due(2, "button", machine - 3, 4);
            run.due(2, "button", machine - 3, 5);
        }
    }

    private static void holesAreAskedOfThoseThatDrillAlone() {
        Run run = run("HOLES are asked of those that drill alone");
        run.blanks(2, 0, 1);
        int[] holes = {LEAST, -1, 0, 1, 2, 3, 4, 5, MOST};
        for (int i = 0; i < holes.length; i++) {
            run.due(1, "work", i % 3, i, holes[i]);
            run.due(1, "button", i, 4);
            run.due(0, "button", i, 5);
        }
        run.due(3, "works", 0, 9, 12, 77);
    }

    private static void theStateIsNotRight() {
        Run run = run("NONE, and nothing changes: the STATE isn't right");
        run.busy();
        int[] notToTurn = {Run.BUSY_TURNED, Run.BUSY_DRILLED, Run.BUSY_BROKEN_AT_TURNING,
            Run.BUSY_BROKEN_AT_DRILLING, Run.BUSY_ON_CARD, 12};
        int[] notToDrill = {Run.BUSY_BLANK, Run.BUSY_DRILLED, Run.BUSY_BROKEN_AT_TURNING,
            Run.BUSY_BROKEN_AT_DRILLING, Run.BUSY_ON_CARD, 12};
        for (int machine = 0; machine <= 2; machine++) {
            for (int button : notToTurn) {
                run.none("work", machine, button, 2);
            }
            for (int button : notToDrill) {
                run.none("work", 3 + machine, button, 2);
            }
        }
    }

    private static void holesTwoOrFour() {
        Run run = run("NONE, and nothing changes: HOLES are not as told (2 or 4)");
        run.does("list", 2, 1, 9);
        run.even(2, 0, 1);
        run.due(3, "cut", 0);
        run.due(3, "works", 0, 0, 3, 0);
        for (int holes : new int[] {LEAST, -4, -2, -1, 0, 1, 3, 5, 6, 8, MOST}) {
            run.none("work", 3, 0, holes);
            run.due(0, "works", 4, 0, 3, holes);
        }
        run.due(0, "machine", 4, 0);
        run.due(1, "work", 3, 0, 2);
        run.due(1, "work", 3, 1, 4);
        run.due(2, "button", 0, 5);
        run.due(4, "button", 1, 5);
        run.none("work", 3, 0, 4);
    }

    private static void fourHolesOnlyOfSizeTwoAndThree() {
        Run run = run("4 only of SIZE 2 and 3");
        for (int size = 1; size <= 3; size++) {
            run.does("list", size, size, 9);
            int r = 0x111 * size;
            run.due(size - 1, "shell", size, size, 0, r, r, r);
            run.due(1, "cut", size - 1);
        }
        run.due(3, "works", 0, 0, 3, 0);
        run.none("work", 3, 0, 4);
        run.due(1, "work", 3, 1, 4);
        run.due(1, "work", 3, 2, 4);
        run.due(1, "work", 3, 0, 2);
        run.due(2, "button", 0, 5);
        run.due(4, "button", 1, 5);
        run.due(4, "button", 2, 5);
        run.due(6, "machine", 3, 0);
    }

    private static void wearByTheThicknessFirst() {
        Run run = run("WEAR is more by the BUTTON's THICKNESS first; then, if it is above what it STANDS");
        for (int thickness = 1; thickness <= 9; thickness++) {
            run.blanks(1, 0, thickness);
        }
        int wear = 0;
        run.does("stands", 1, 45);
        for (int thickness = 1; thickness <= 9; thickness++) {
            wear += thickness;
            run.due(1, "work", 1, 6 * (thickness - 1), 0);
            run.due(wear, "machine", 1, 0);
        }
        // From nothing at one go: 8 is 7 above 1, 9 is 8 above it.
        run.does("stands", 0, 1);
        run.due(0, "work", 0, 6 * 7 + 1, 0);
        run.due(8, "machine", 0, 0);
        run.due(8, "grind", 0);
        run.due(1, "work", 0, 6 * 8 + 1, 0);
        run.due(9, "machine", 0, 0);
    }

    /** As 0 is a multiple of all numbers, only what is above can break. */
    private static void notAboveWhatItStands() {
        for (int thickness = 1; thickness <= 9; thickness++) {
            Run run = run("if it is above what it STANDS, THICKNESS " + thickness);
            run.blanks(1, 0, thickness);
            run.does("stands", 0, 2 * thickness);
            run.due(1, "work", 0, 0, 0);
            run.due(1, "work", 0, 1, 0);
            run.due(2 * thickness, "machine", 0, 0);
            run.due(0, "work", 0, 2, 0);
            // Below what it stands by a multiple of 7 and of the thickness.
            run.does("stands", 0, 4 * thickness + 7 * thickness);
            run.due(1, "work", 0, 3, 0);
            run.does("stands", 0, 5 * thickness);
            run.due(1, "work", 0, 4, 0);
            run.does("stands", 0, 6 * thickness - 1);
            run.due(thickness == 1 ? 0 : 1, "work", 0, 5, 0);
        }
    }

    /** For each thickness a button at each wear from 1 to 22 above what the machine is set to stand. */
    private static void aMultipleOfSeven() {
        for (int thickness = 1; thickness <= 9; thickness++) {
            Run run = run("the WEAR above that is a multiple of 7 or of the BUTTON's THICKNESS, " + thickness);
            run.strong();
            run.blanks(4, 0, thickness);
            run.blanks(4, 0, thickness);
            run.due(22, "works", 1, 0, 22, 0);
            int wear = 22 * thickness;
            for (int above = 1; above <= 22; above++) {
                boolean breaks = above % 7 == 0 || above % thickness == 0;
                int button = 21 + above;
                wear += thickness;
                run.does("stands", 1, wear - above);
                run.due(breaks ? 0 : 1, "work", 1, button, 0);
                run.due(breaks ? 3 : 1, "button", button, 4);
                run.due(wear, "machine", 1, 0);
            }
        }
    }

    private static void aMultipleOfTheThickness() {
        Run run = run("the WEAR above that is a multiple of the BUTTON's THICKNESS");
        run.does("list", 1, 4, 1);
        run.does("list", 1, 6, 1);
        run.due(0, "shell", 1, 6, 0, 0x464646);
        run.due(6, "cut", 0);
        run.does("stands", 2, 2);
        // The thickness of the button itself counts, not that of one before: 6, 4, 6, 4 by turns.
        run.due(1, "work", 2, 0, 0);
        run.due(0, "work", 2, 1, 0);
        run.due(0, "work", 2, 2, 0);
        run.due(1, "work", 2, 3, 0);
        run.due(0, "work", 2, 4, 0);
        run.due(0, "work", 2, 5, 0);
        run.due(30, "machine", 2, 0);
        run.due(2, "machine", 2, 2);
        run.due(4, "machine", 2, 3);
    }

    private static void brokenByThatMachine() {
        for (int machine = 0; machine <= 5; machine++) {
            Run run = run("the BUTTON is BROKEN by that MACHINE: 0 it is BROKEN");
            run.blanks(1, 0, 1);
            int drill = machine < 3 ? 0 : 1;
            if (drill == 1) {
                run.due(6, "works", 0, 0, 6, 0);
            }
            run.does("stands", machine, 1);
            run.due(-1, "button", 0, 6);
            run.due(1, "work", machine, 0, 2);
            run.due(0, "work", machine, 1, 2);
            run.due(-1, "button", 0, 6);
            run.due(machine, "button", 1, 6);
            run.due(3, "button", 1, 4);
            run.due(2, "machine", machine, 0);
            run.due(1, "machine", machine, 2);
            run.due(1, "machine", machine, 3);
            run.due(1, "count", 4);
        }
    }

    private static void worksFromOneToAnotherNotThat() {
        Run run = run("WORK on the BUTTONS from one to another one (not that)");
        run.blanks(2, 0, 1);
        run.due(0, "works", 0, 0, 0, 0);
        run.due(0, "works", 0, 5, 5, 0);
        run.due(1, "works", 0, 5, 6, 0);
        run.due(0, "button", 4, 4);
        run.due(1, "button", 5, 4);
        run.due(0, "button", 6, 4);
        run.due(1, "works", 0, 0, 1, 0);
        run.due(1, "button", 0, 4);
        run.due(0, "button", 1, 4);
        run.due(4, "works", 0, 0, 5, 0);
        run.due(1, "works", 1, 11, 12, 0);
        run.due(1, "machine", 1, 0);
    }

    private static void worksAsLongAsThereAreSuch() {
        Run run = run("as long as there are such");
        run.blanks(2, 0, 1);
        run.due(0, "works", 0, 12, 12, 0);
        run.due(0, "works", 0, 12, 13, 0);
        run.due(0, "works", 0, 13, 400, 0);
        run.due(0, "works", 0, 400, 401, 0);
        run.due(0, "works", 0, MOST, MOST, 0);
        run.due(0, "works", 0, MOST - 1, MOST, 0);
        run.due(1, "works", 0, 11, 13, 0);
        run.due(1, "works", 0, 10, 400, 0);
        run.due(1, "works", 0, 9, 401, 0);
        run.due(9, "works", 0, 0, MOST, 0);
        run.due(12, "works", 3, 0, MOST, 2);
        run.due(12, "machine", 0, 0);
    }

    private static void worksPassesBy() {
        Run run = run("those for which it tells NONE are passed by: how many are done");
        run.busy();
        run.does("grind", 0);
        // The blanks that are left are 30 to 51; 27 and 53 alone are turned before.
        run.due(22, "works", 0, 0, 400, 0);
        run.due(66, "machine", 0, 0);
        run.does("grind", 4);
        run.due(0, "works", 4, 0, 400, 4);
        run.due(0, "works", 4, 0, 400, 3);
        run.due(0, "machine", 4, 0);
        run.does("stands", 4, 9);
        // Three are done, and each behind them that is 3, 6, 9.. above is broken.
        run.due(3, "works", 4, 0, 400, 2);
        run.due(72, "machine", 4, 0);
        run.due(3, "machine", 4, 2);
        run.due(21, "machine", 4, 3);
        run.due(2, "button", 27, 4);
        run.due(2, "button", 31, 4);
        run.due(3, "button", 32, 4);
        run.due(3, "button", 53, 4);
        run.due(23, "count", 4);

        Run sevens = run("one by one: those behind a broken one are done");
        sevens.blanks(1, 0, 5);
        sevens.does("stands", 0, 3);
        // 2, 7, 12, 17, 22 and 27 above: the second alone is broken.
        sevens.due(5, "works", 0, 0, 6, 0);
        sevens.due(3, "button", 1, 4);
        sevens.due(1, "button", 2, 4);
        sevens.due(30, "machine", 0, 0);
    }

    private static void worksFromBelowNoughtOrAboveTo() {
        Run run = run("IllegalArgumentException: from is below 0, or above to");
        run.busy();
        int[][] wrong = {{-1, 54}, {-1, 0}, {-1, -1}, {LEAST, MOST}, {LEAST, LEAST}, {1, 0}, {41, 40}, {54, 53},
            {MOST, MOST - 1}, {0, -1}, {0, LEAST}, {400, 0}, {-2, -1}};
        for (int[] w : wrong) {
            run.badArgument("works", 0, w[0], w[1], 0);
            run.badArgument("works", 5, w[0], w[1], 2);
        }
        run.due(0, "works", 0, 0, 0, 0);
        run.due(1, "works", 0, 40, 41, 0);
    }

    private static void groundAnew() {
        Run run = run("GROUND anew a MACHINE's WEAR is 0: what WEAR was");
        run.blanks(1, 0, 9);
        for (int machine = 0; machine <= 5; machine++) {
            run.due(0, "grind", machine);
        }
        run.due(6, "works", 2, 0, 6, 0);
        run.due(3, "works", 5, 0, 3, 2);
        run.due(54, "grind", 2);
        run.due(0, "machine", 2, 0);
        run.due(100, "machine", 2, 1);
        run.due(6, "machine", 2, 2);
        run.due(0, "grind", 2);
        run.due(27, "machine", 5, 0);
        run.does("stands", 5, 26);
        // Ground anew, it is 9 and no longer 36, which is 10 above.
        run.due(27, "grind", 5);
        run.due(1, "work", 5, 3, 2);
        run.due(9, "grind", 5);
    }

    private static void noOtherWhatOfAMachine() {
        Run run = run("Of a MACHINE: 0 WEAR, 1 what it STANDS, 2 BUTTONS that it did, 3 that it broke; another what");
        run.busy();
        int[] due = {6, 3, 1, 1};
        for (int what = 0; what <= 3; what++) {
            run.due(due[what], "machine", 2, what);
        }
        for (int what : new int[] {LEAST, -1, 4, 5, MOST}) {
            run.noSuch("machine", 0, what);
            run.noSuch("machine", 5, what);
        }
    }

    private static void hoursNoughtToNine() {
        Run run = run("BLEACHED for hours (0 to 9): IllegalArgumentException: hours are not 0 to 9");
        run.busy();
        for (int hours : new int[] {LEAST, -1, 10, 11, MOST}) {
            run.badArgument("bleach", 2, hours);
            run.badArgument("bleach", Run.BUSY_UNCUT, hours);
        }
        run.due(0, "bleach", 2, 0);
        run.due(7, "button", Run.BUSY_BLANK, 2);
        run.due(28, "bleach", 2, 9);
        run.due(0, "button", Run.BUSY_BLANK, 2);
        run.due(0, "bleach", 2, 9);
        run.due(0, "bleach", Run.BUSY_UNCUT, 9);
        run.due(2, "shellOf", Run.BUSY_UNCUT, 2);
    }

    private static void tintNotBelowNought() {
        Run run = run("TINTS are less by those, not below 0: of how many BUTTONS the TINT is another one");
        run.does("list", 1, 1, 1);
        int shells = 0;
        for (int tint = 0; tint <= 9; tint++) {
            for (int hours : new int[] {0, tint - 1, tint, tint + 1, 9}) {
                if (hours < 0 || hours > 9 || shells >= 30) {
                    continue;
                }
                int left = tint > hours ? tint - hours : 0;
                run.due(shells, "shell", 1, 2, tint, 0x11);
                run.due(2, "cut", shells);
                run.due(left == tint ? 0 : 2, "bleach", shells, hours);
                run.due(left, "button", 2 * shells, 2);
                run.due(left, "button", 2 * shells + 1, 2);
                run.due(tint, "shellOf", shells, 2);
                shells++;
            }
        }
    }

    private static void bleachedFromTheFirstToTheLast() {
        Run run = run("the TINTS of all BUTTONS of a SHELL");
        for (int shell = 0; shell < 3; shell++) {
            run.blanks(1, 9, 1);
        }
        for (int shell = 0; shell < 3; shell++) {
            run.due(6, "bleach", shell, 1 + shell);
            for (int button = 0; button < 18; button++) {
                int of = button / 6;
                run.due(of <= shell ? 8 - of : 9, "button", button, 2);
            }
        }
    }

    private static void bleachedAreNotTheBrokenOrThoseOnACard() {
        Run run = run("all BUTTONS of a SHELL that are not BROKEN or on a CARD");
        run.busy();
        run.due(0, "bleach", 0, 9);
        run.due(0, "bleach", 1, 9);
        run.due(5, "button", Run.BUSY_ON_CARD, 2);
        run.due(6, "button", 12, 2);
        run.due(28, "bleach", 2, 2);
        run.due(5, "button", Run.BUSY_BLANK, 2);
        run.due(5, "button", Run.BUSY_TURNED, 2);
        run.due(5, "button", Run.BUSY_DRILLED, 2);
        run.due(7, "button", Run.BUSY_BROKEN_AT_DRILLING, 2);
        run.due(7, "button", Run.BUSY_BROKEN_AT_TURNING, 2);
        run.due(5, "cardOf", 0, 2);
        // Some of a card's shell that are not on it.
        run.drilled(3, 8, 2);
        run.does("card", 1, 2, 8, 0);
        run.due(6, "bleach", 4, 1);
        run.due(8, "button", 54, 2);
        run.due(7, "button", 71, 2);
        run.due(6, "bleach", 4, 7);
        run.due(0, "bleach", 4, 1);
    }
}
