import java.util.Random;

/** The cut (promises 5, 6 and 7) against all cuts of small shells, each gone through and compared. */
public final class AllCutsTest {
    private static final Check CHECK = new Check();

    private int rows;
    private int columns;
    private int[][] thickness;
    private int[][] worths;
    private boolean[][] taken;
    private int[] told;
    private int[] bestTold;
    private int bestWorth;
    private int bestBlanks;

    public static void main(String[] args) {
        Random random = new Random(20261116);
        int[][] sides = {{1, 1}, {1, 6}, {6, 1}, {2, 2}, {2, 3}, {3, 2}, {3, 3}, {2, 6}, {6, 2}, {3, 4}, {4, 3}, {3, 5}};
        for (int[] side : sides) {
            for (int i = 0; i < 25; i++) {
                new AllCutsTest().compare(random, side[0], side[1]);
            }
        }
        CHECK.finish();
    }

    private void compare(Random random, int askedRows, int askedColumns) {
        rows = askedRows;
        columns = askedColumns;
        ButtonWorks works = new ButtonWorks();
        draw(random, works);
        taken = new boolean[rows][columns];
        told = new int[rows * columns];
        bestTold = null;
        goThrough(0, 0, 0);
        CHECK.due("worth", bestWorth, works.best(0, 0));
        CHECK.due("blanks", bestBlanks, works.best(0, 1));
        for (int place = 0; place < rows * columns; place++) {
            CHECK.due("place " + place, bestTold[place], works.bestAt(0, place));
        }
        CHECK.due("cut", bestBlanks, works.cut(0));
        int button = 0;
        for (int place = 0; place < rows * columns; place++) {
            if (bestTold[place] > 0) {
                CHECK.due("size", bestTold[place], works.button(button, 0));
                CHECK.due("thickness", least(place / columns, place % columns, bestTold[place]), works.button(button, 1));
                CHECK.due("place", place, works.button(button, 8));
                button++;
            }
        }
    }

    /** Few thicknesses and small worths, so that many cuts are alike. */
    private void draw(Random random, ButtonWorks works) {
        int thicknesses = 1 + random.nextInt(3);
        boolean flawed = random.nextBoolean();
        thickness = new int[rows][columns];
        int[] bits = new int[6];
        for (int r = 0; r < rows; r++) {
            for (int c = 0; c < columns; c++) {
                thickness[r][c] = flawed && random.nextInt(6) == 0 ? 0 : 1 + random.nextInt(thicknesses);
                bits[r] |= thickness[r][c] << (4 * c);
            }
        }
        works.shell(rows, columns, 0, bits[0], bits[1], bits[2], bits[3], bits[4], bits[5]);
        worths = new int[4][10];
        int unit = 1 + random.nextInt(4);
        for (int size = 1; size <= 3; size++) {
            for (int t = 1; t <= thicknesses; t++) {
                int even = random.nextBoolean() ? unit * size * size : random.nextInt(unit * size * size + 1);
                worths[size][t] = even;
                works.list(size, t, even);
            }
        }
    }

    private void goThrough(int place, int worth, int blanks) {
        if (place == rows * columns) {
            keepIfAhead(worth, blanks);
            return;
        }
        int r = place / columns;
        int c = place % columns;
        for (int size = 0; size <= 3; size++) {
            if (size == 0) {
                goThrough(place + 1, worth, blanks);
            } else if (isFree(r, c, size)) {
                take(r, c, size, true);
                told[place] = size;
                goThrough(place + 1, worth + worths[size][least(r, c, size)], blanks + 1);
                told[place] = 0;
                take(r, c, size, false);
            }
        }
    }

    private void keepIfAhead(int worth, int blanks) {
        if (bestTold == null || worth > bestWorth || worth == bestWorth && blanks < bestBlanks
                || worth == bestWorth && blanks == bestBlanks && java.util.Arrays.compare(told, bestTold) > 0) {
            bestTold = told.clone();
            bestWorth = worth;
            bestBlanks = blanks;
        }
    }

    private boolean isFree(int row, int column, int size) {
        if (row + size > rows || column + size > columns) {
            return false;
        }
        for (int r = row; r < row + size; r++) {
            for (int c = column; c < column + size; c++) {
                if (taken[r][c] || thickness[r][c] == 0) {
                    return false;
                }
            }
        }
        return true;
    }

    private int least(int row, int column, int size) {
        int least = 9;
        for (int r = row; r < row + size; r++) {
            for (int c = column; c < column + size; c++) {
                least = Math.min(least, thickness[r][c]);
            }
        }
        return least;
    }

    private void take(int row, int column, int size, boolean how) {
        for (int r = row; r < row + size; r++) {
            for (int c = column; c < column + size; c++) {
                taken[r][c] = how;
            }
        }
    }
}
