import java.util.Arrays;
import java.util.NoSuchElementException;

/** A works for buttons of shell, from the cut of the shells to the orders that are sent. */
public final class ButtonWorks {
    public static final int NONE = -1;

    private static final int MOST_SHELLS = 30;
    private static final int MOST_BUTTONS = 400;
    private static final int MOST_CARDS = 30;
    private static final int MOST_ORDERS = 30;

    private static final int SIDE = 6;
    private static final int PLACES = SIDE * SIDE;
    private static final int MOST_SIZE = 3;
    private static final int MOST_THICKNESS = 9;
    private static final int MOST_TINT = 9;
    private static final int MOST_WORTH = 999;

    private static final int MACHINES = 6;
    private static final int FIRST_DRILL = 3;
    private static final int MOST_STOOD = 10000;
    private static final int MOST_HOURS = 9;

    private static final int BLANK = 0;
    private static final int TURNED = 1;
    private static final int DRILLED = 2;
    private static final int BROKEN = 3;
    private static final int ON_CARD = 4;

    private static final int DOZEN = 12;
    private static final int MOST_SPAN = 8;
    private static final int MOST_CARDS_ORDERED = 9;
    private static final int LAST_DUE_DAY = 999;
    private static final int LAST_DAY = 2000;
    private static final int MOST_PRICE = 999;

    private final Shell[] shells = new Shell[MOST_SHELLS];
    private int shellCount = 0;
    private final Button[] buttons = new Button[MOST_BUTTONS];
    private int buttonCount = 0;
    private final Machine[] machines = new Machine[MACHINES];
    private final Card[] cards = new Card[MOST_CARDS];
    private int cardCount = 0;
    private final Order[] orders = new Order[MOST_ORDERS];
    private int orderCount = 0;
    /** The orders' numbers by their days, of like ones by number: the order in which they are sent. */
    private final int[] byDay = new int[MOST_ORDERS];
    private final Cutter cutter = new Cutter();
    /** The rows that a call of shell() tells, kept to be used again. */
    private final int[] told = new int[SIDE];
    private int brokenCount = 0;
    private int paid = 0;

    public ButtonWorks() {
        for (int i = 0; i < MACHINES; i++) {
            machines[i] = new Machine();
        }
    }

    public int shell(int rows, int columns, int tint, int r0, int r1, int r2, int r3, int r4, int r5) {
        if (shellCount >= MOST_SHELLS || !isWithin(rows, 1, SIDE) || !isWithin(columns, 1, SIDE)
                || !isWithin(tint, 0, MOST_TINT)) {
            return NONE;
        }
        told[0] = r0;
        told[1] = r1;
        told[2] = r2;
        told[3] = r3;
        told[4] = r4;
        told[5] = r5;
        Shell made = new Shell(rows, columns, tint);
        if (!made.takesSquares(told)) {
            return NONE;
        }
        shells[shellCount] = made;
        shellCount++;
        return shellCount - 1;
    }

    public int shellOf(int shell, int what) throws NoSuchElementException {
        Shell asked = shellNumbered(shell);
        switch (what) {
            case 0:
                return asked.rows;
            case 1:
                return asked.columns;
            case 2:
                return asked.tint;
            case 3:
                return asked.isCut ? 1 : 0;
            default:
                throw new NoSuchElementException("a shell has no such thing");
        }
    }

    public int list(int size, int thickness, int worth) throws IllegalArgumentException {
        if (!isSize(size) || !isWithin(thickness, 1, MOST_THICKNESS) || !isWithin(worth, 0, MOST_WORTH)) {
            throw new IllegalArgumentException("no such size, thickness or worth");
        }
        return cutter.relist(size, thickness, worth);
    }

    public int best(int shell, int what) throws NoSuchElementException {
        Shell asked = shellNumbered(shell);
        if (!isWithin(what, 0, 1)) {
            throw new NoSuchElementException("a cut has no such thing");
        }
        cutter.plan(asked);
        return what == 0 ? asked.cutWorth : asked.cutBlanks;
    }

    public int bestAt(int shell, int place) throws NoSuchElementException {
        Shell asked = shellNumbered(shell);
        if (!isWithin(place, 0, asked.rows * asked.columns - 1)) {
            throw new NoSuchElementException("no such place");
        }
        cutter.plan(asked);
        return asked.cutSizes[place];
    }

    public int cut(int shell) throws NoSuchElementException {
        Shell asked = shellNumbered(shell);
        if (asked.isCut) {
            return NONE;
        }
        cutter.plan(asked);
        if (buttonCount + asked.cutBlanks > MOST_BUTTONS) {
            return NONE;
        }
        asked.isCut = true;
        takeButtons(asked, shell);
        return asked.cutBlanks;
    }

    public int button(int button, int what) throws NoSuchElementException {
        Button asked = buttonNumbered(button);
        switch (what) {
            case 0:
                return asked.size;
            case 1:
                return asked.thickness;
            case 2:
                return asked.tint;
            case 3:
                return asked.shell;
            case 4:
                return asked.state;
            case 5:
                return asked.holes;
            case 6:
                return asked.brokenBy;
            case 7:
                return asked.card;
            case 8:
                return asked.place;
            default:
                throw new NoSuchElementException("a button has no such thing");
        }
    }

    public int stands(int machine, int v) throws NoSuchElementException, IllegalArgumentException {
        Machine asked = machineNumbered(machine);
        if (!isWithin(v, 1, MOST_STOOD)) {
            throw new IllegalArgumentException("no machine stands so much");
        }
        int stood = asked.stands;
        asked.stands = v;
        return stood;
    }

    public int work(int machine, int button, int holes) throws NoSuchElementException {
        machineNumbered(machine);
        return workOn(machine, buttonNumbered(button), holes);
    }

    public int works(int machine, int from, int to, int holes)
            throws NoSuchElementException, IllegalArgumentException {
        machineNumbered(machine);
        if (from < 0 || from > to) {
            throw new IllegalArgumentException("no such buttons from one to another");
        }
        int end = Math.min(to, buttonCount);
        int done = 0;
        for (int i = from; i < end; i++) {
            if (workOn(machine, buttons[i], holes) == 1) {
                done++;
            }
        }
        return done;
    }

    public int grind(int machine) throws NoSuchElementException {
        Machine asked = machineNumbered(machine);
        int worn = asked.wear;
        asked.wear = 0;
        return worn;
    }

    public int machine(int machine, int what) throws NoSuchElementException {
        Machine asked = machineNumbered(machine);
        switch (what) {
            case 0:
                return asked.wear;
            case 1:
                return asked.stands;
            case 2:
                return asked.did;
            case 3:
                return asked.broke;
            default:
                throw new NoSuchElementException("a machine has no such thing");
        }
    }

    public int bleach(int shell, int hours) throws NoSuchElementException, IllegalArgumentException {
        shellNumbered(shell);
        if (!isWithin(hours, 0, MOST_HOURS)) {
            throw new IllegalArgumentException("hours are 0 to 9");
        }
        int changed = 0;
        for (int i = 0; i < buttonCount; i++) {
            if (buttons[i].shell == shell && buttons[i].pales(hours)) {
                changed++;
            }
        }
        return changed;
    }

    public int card(int size, int holes, int tint, int span) throws IllegalArgumentException {
        if (!isSize(size) || !isHoles(holes) || !isWithin(tint, 0, MOST_TINT) || !isWithin(span, 0, MOST_SPAN)) {
            throw new IllegalArgumentException("no such size, holes, tint or span");
        }
        if (cardCount >= MOST_CARDS) {
            return NONE;
        }
        Card made = new Card(size, holes, tint);
        int least = bestLeastThickness(made, span);
        if (least == NONE) {
            return NONE;
        }
        sewDozen(made, least, least + span);
        cards[cardCount] = made;
        cardCount++;
        return cardCount - 1;
    }

    public int cardOf(int card, int what) throws NoSuchElementException {
        Card asked = cardNumbered(card);
        switch (what) {
            case 0:
                return asked.size;
            case 1:
                return asked.holes;
            case 2:
                return asked.tint;
            case 3:
                return asked.leastThickness;
            case 4:
                return asked.greatestThickness;
            case 5:
                return asked.order;
            default:
                throw new NoSuchElementException("a card has no such thing");
        }
    }

    public int onCard(int card, int i) throws NoSuchElementException {
        Card asked = cardNumbered(card);
        if (!isWithin(i, 0, DOZEN - 1)) {
            throw new NoSuchElementException("a card has twelve buttons");
        }
        return asked.sewn[i];
    }

    public int order(int cards, int size, int holes, int from, int to, int day, int price) {
        if (orderCount >= MOST_ORDERS || !isWithin(cards, 1, MOST_CARDS_ORDERED) || !isSize(size)
                || !isHoles(holes) || !isWithin(from, 0, MOST_TINT) || !isWithin(to, from, MOST_TINT)
                || !isWithin(day, 0, LAST_DUE_DAY) || !isWithin(price, 0, MOST_PRICE)) {
            return NONE;
        }
        orders[orderCount] = new Order(cards, size, holes, from, to, day, price);
        queueByDay(orderCount);
        orderCount++;
        return orderCount - 1;
    }

    public int send(int day) throws IllegalArgumentException {
        if (!isWithin(day, 0, LAST_DAY)) {
            throw new IllegalArgumentException("no such day");
        }
        int gained = 0;
        for (int i = 0; i < orderCount; i++) {
            int number = byDay[i];
            Order next = orders[number];
            if (next.sentOn == NONE && fittingCards(next) >= next.cards) {
                giveCards(next, number);
                next.sentOn = day;
                gained += next.payOn(day);
            }
        }
        paid += gained;
        return gained;
    }

    public int sent(int order) throws NoSuchElementException {
        if (!isWithin(order, 0, orderCount - 1)) {
            throw new NoSuchElementException("no such order");
        }
        return orders[order].sentOn;
    }

    public int count(int what) throws NoSuchElementException {
        switch (what) {
            case 0:
                return shellCount;
            case 1:
                return buttonCount;
            case 2:
                return cardCount;
            case 3:
                return orderCount;
            case 4:
                return brokenCount;
            case 5:
                return cardCount * DOZEN;
            case 6:
                return paid;
            default:
                throw new NoSuchElementException("the works has no such count");
        }
    }

    private static boolean isWithin(int n, int least, int most) {
        return n >= least && n <= most;
    }

    private static boolean isSize(int size) {
        return isWithin(size, 1, MOST_SIZE);
    }

    private static boolean isHoles(int holes) {
        return holes == 2 || holes == 4;
    }

    private Shell shellNumbered(int shell) {
        if (!isWithin(shell, 0, shellCount - 1)) {
            throw new NoSuchElementException("no such shell");
        }
        return shells[shell];
    }

    private Button buttonNumbered(int button) {
        if (!isWithin(button, 0, buttonCount - 1)) {
            throw new NoSuchElementException("no such button");
        }
        return buttons[button];
    }

    private Machine machineNumbered(int machine) {
        if (!isWithin(machine, 0, MACHINES - 1)) {
            throw new NoSuchElementException("no such machine");
        }
        return machines[machine];
    }

    private Card cardNumbered(int card) {
        if (!isWithin(card, 0, cardCount - 1)) {
            throw new NoSuchElementException("no such card");
        }
        return cards[card];
    }

    /** cut() has seen that the buttons of the planned cut have room. */
    private void takeButtons(Shell from, int number) {
        for (int place = 0; place < from.rows * from.columns; place++) {
            int size = from.cutSizes[place];
            if (size > 0 && buttonCount < MOST_BUTTONS) {
                buttons[buttonCount] = new Button(size, from.cutThicknesses[place], from.tint, number, place);
                buttonCount++;
            }
        }
    }

    private int workOn(int machine, Button button, int holes) {
        boolean drills = machine >= FIRST_DRILL;
        if (drills ? !button.canBeDrilled(holes) : button.state != BLANK) {
            return NONE;
        }
        if (machines[machine].breaksAt(button.thickness)) {
            button.state = BROKEN;
            button.brokenBy = machine;
            brokenCount++;
            return 0;
        }
        if (drills) {
            button.holes = holes;
        }
        button.state = drills ? DRILLED : TURNED;
        return 1;
    }

    /** The least thickness of the card that is to be made; NONE if no dozen is there. */
    private int bestLeastThickness(Card wished, int span) {
        int best = NONE;
        int bestFirst = MOST_BUTTONS;
        for (int t = 1; t <= MOST_THICKNESS; t++) {
            int first = firstOfDozen(wished, t, t + span);
            if (first != NONE && first < bestFirst) {
                best = t;
                bestFirst = first;
            }
        }
        return best;
    }

    /** The number of the first of twelve buttons that fit; NONE if there are fewer. */
    private int firstOfDozen(Card wished, int least, int greatest) {
        int first = NONE;
        int found = 0;
        for (int i = 0; i < buttonCount && found < DOZEN; i++) {
            if (buttons[i].fits(wished, least, greatest)) {
                first = found == 0 ? i : first;
                found++;
            }
        }
        return found == DOZEN ? first : NONE;
    }

    private void sewDozen(Card made, int least, int greatest) {
        int found = 0;
        for (int i = 0; i < buttonCount && found < DOZEN; i++) {
            if (buttons[i].fits(made, least, greatest)) {
                made.sew(found, i, buttons[i].thickness);
                buttons[i].state = ON_CARD;
                buttons[i].card = cardCount;
                found++;
            }
        }
    }

    /** An order of a like day stands before the new one, whose number is greater. */
    private void queueByDay(int number) {
        int at = number;
        while (at > 0 && orders[byDay[at - 1]].day > orders[number].day) {
            byDay[at] = byDay[at - 1];
            at--;
        }
        byDay[at] = number;
    }

    private int fittingCards(Order wished) {
        int fitting = 0;
        for (int i = 0; i < cardCount; i++) {
            if (wished.takes(cards[i])) {
                fitting++;
            }
        }
        return fitting;
    }

    private void giveCards(Order wished, int number) {
        int given = 0;
        for (int i = 0; i < cardCount && given < wished.cards; i++) {
            if (wished.takes(cards[i])) {
                cards[i].order = number;
                given++;
            }
        }
    }

    /** A shell as a grid of six by six, where it has no place the thickness is 0. */
    private static final class Shell {
        final int rows;
        final int columns;
        final int tint;
        final int[] grid = new int[PLACES];
        boolean isCut = false;

        /** The cut that was found for the list numbered plannedFor; its places are the shell's own. */
        final int[] cutSizes = new int[PLACES];
        final int[] cutThicknesses = new int[PLACES];
        int cutWorth = 0;
        int cutBlanks = 0;
        int plannedFor = NONE;

        Shell(int rows, int columns, int tint) {
            this.rows = rows;
            this.columns = columns;
            this.tint = tint;
        }

        /** Whether every thickness is one that there can be. */
        boolean takesSquares(int[] bitsOfRows) {
            for (int row = 0; row < rows; row++) {
                for (int column = 0; column < columns; column++) {
                    int thickness = (bitsOfRows[row] >>> (4 * column)) & 15;
                    if (thickness > MOST_THICKNESS) {
                        return false;
                    }
                    grid[row * SIDE + column] = thickness;
                }
            }
            return true;
        }

        /** The thickness of the blank whose upper left place is told; 0 if there can be none. */
        int blankThickness(int place, int size) {
            int row = place / SIDE;
            int column = place % SIDE;
            if (row + size > SIDE || column + size > SIDE) {
                return 0;
            }
            int least = MOST_THICKNESS;
            for (int r = row; r < row + size; r++) {
                for (int c = column; c < column + size; c++) {
                    least = Math.min(least, grid[r * SIDE + c]);
                }
            }
            return least;
        }
    }

    /**
     * Holds the list and finds the cut of a shell for it.
     *
     * The places are gone through row by row. What the places behind one can still give hangs only on
     * the profile: for each column, how many of its next places (0 to 2) are taken by blanks that were
     * begun further up. It is a number of six digits of base 3, that of column 0 lowest. What a place
     * and a profile give is reckoned once for each plan.
     *
     * Worth and number of blanks are one score, worth * 64 - blanks: there are fewer than 64 blanks, so
     * the greater score has the greater worth or, of like worths, fewer blanks.
     */
    private static final class Cutter {
        private static final int[] POWERS = {1, 3, 9, 27, 81, 243};
        /** For a size, the profile in which that many columns from column 0 on are taken once. */
        private static final int[] ONCE_TAKEN = {0, 1, 4, 13};
        private static final int PROFILES = 729;
        private static final int WORTH_SCORE = 64;
        private static final int UNKNOWN = -1;
        private static final int REFUSED = -1;

        private final int[] worths = new int[(MOST_SIZE + 1) * (MOST_THICKNESS + 1)];
        private int listNumber = 0;
        private final int[] gains = new int[(MOST_SIZE + 1) * PLACES];
        private final int[] scores = new int[PLACES * PROFILES];
        private final int[] sizes = new int[PLACES];

        int relist(int size, int thickness, int worth) {
            int at = size * (MOST_THICKNESS + 1) + thickness;
            int was = worths[at];
            if (was != worth) {
                worths[at] = worth;
                listNumber++;
            }
            return was;
        }

        void plan(Shell shell) {
            if (shell.plannedFor == listNumber) {
                return;
            }
            reckonGains(shell);
            Arrays.fill(scores, UNKNOWN);
            chooseSizes();
            writeCut(shell);
            shell.plannedFor = listNumber;
        }

        /**
         * A blank without worth is in no cut, as there are fewer blanks without it; so the gain 0 stands
         * for it as for no blank at all (no worth is ever listed for thickness 0).
         */
        private void reckonGains(Shell shell) {
            for (int size = 1; size <= MOST_SIZE; size++) {
                for (int place = 0; place < PLACES; place++) {
                    int thickness = shell.blankThickness(place, size);
                    gains[size * PLACES + place] = worths[size * (MOST_THICKNESS + 1) + thickness];
                }
            }
        }

        private void chooseSizes() {
            Arrays.fill(sizes, 0);
            int place = 0;
            int profile = 0;
            while (place < PLACES) {
                int size = chosenSize(place, profile);
                sizes[place] = size;
                profile = size > 0 ? profileWith(size, place, profile) : profileWithout(place, profile);
                place += Math.max(1, size);
            }
        }

        /** Of sizes of like score the greatest, as the cut that tells the greater number first is ahead. */
        private int chosenSize(int place, int profile) {
            int best = scoreFrom(place, profile);
            for (int size = MOST_SIZE; size > 0; size--) {
                if (scoreWith(size, place, profile) == best) {
                    return size;
                }
            }
            return 0;
        }

        /** The depth of this recursion is the place, which grows with each level up to 36. */
        private int scoreFrom(int place, int profile) {
            if (!isWithin(place, 0, PLACES - 1) || !isWithin(profile, 0, PROFILES - 1)) {
                return 0;
            }
            int at = place * PROFILES + profile;
            if (scores[at] == UNKNOWN) {
                int best = scoreFrom(place + 1, profileWithout(place, profile));
                for (int size = 1; size <= MOST_SIZE; size++) {
                    best = Math.max(best, scoreWith(size, place, profile));
                }
                scores[at] = best;
            }
            return scores[at];
        }

        private int scoreWith(int size, int place, int profile) {
            int gain = gains[size * PLACES + place];
            if (gain == 0 || profile / POWERS[place % SIDE] % POWERS[size] != 0) {
                return REFUSED;
            }
            return gain * WORTH_SCORE - 1 + scoreFrom(place + size, profileWith(size, place, profile));
        }

        private static int profileWith(int size, int place, int profile) {
            return profile + (size - 1) * ONCE_TAKEN[size] * POWERS[place % SIDE];
        }

        private static int profileWithout(int place, int profile) {
            int power = POWERS[place % SIDE];
            return profile / power % 3 > 0 ? profile - power : profile;
        }

        private void writeCut(Shell shell) {
            shell.cutWorth = 0;
            shell.cutBlanks = 0;
            int own = 0;
            for (int row = 0; row < shell.rows; row++) {
                for (int column = 0; column < shell.columns; column++) {
                    int place = row * SIDE + column;
                    int size = sizes[place];
                    shell.cutSizes[own] = size;
                    if (size > 0) {
                        shell.cutThicknesses[own] = shell.blankThickness(place, size);
                        shell.cutWorth += gains[size * PLACES + place];
                        shell.cutBlanks++;
                    }
                    own++;
                }
            }
        }
    }

    private static final class Button {
        final int size;
        final int thickness;
        int tint;
        final int shell;
        final int place;
        int state = BLANK;
        int holes = 0;
        int brokenBy = NONE;
        int card = NONE;

        Button(int size, int thickness, int tint, int shell, int place) {
            this.size = size;
            this.thickness = thickness;
            this.tint = tint;
            this.shell = shell;
            this.place = place;
        }

        boolean canBeDrilled(int wished) {
            return state == TURNED && isHoles(wished) && (wished == 2 || size > 1);
        }

        /** Whether its tint becomes another one. */
        boolean pales(int hours) {
            if (state == BROKEN || state == ON_CARD) {
                return false;
            }
            int was = tint;
            tint = Math.max(0, tint - hours);
            return tint != was;
        }

        boolean fits(Card wished, int least, int greatest) {
            return state == DRILLED && size == wished.size && holes == wished.holes && tint == wished.tint
                    && isWithin(thickness, least, greatest);
        }
    }

    private static final class Machine {
        private static final int FIRST_STOOD = 100;
        private static final int SEVEN = 7;

        int wear = 0;
        int stands = FIRST_STOOD;
        int did = 0;
        int broke = 0;

        /** Wears by a button, and tells whether that is broken. */
        boolean breaksAt(int thickness) {
            wear += thickness;
            int above = wear - stands;
            if (above > 0 && (isMultiple(above, SEVEN) || isMultiple(above, thickness))) {
                broke++;
                return true;
            }
            did++;
            return false;
        }

        private static boolean isMultiple(int n, int of) {
            return of > 0 && n % of == 0;
        }
    }

    private static final class Card {
        final int size;
        final int holes;
        final int tint;
        final int[] sewn = new int[DOZEN];
        int leastThickness = MOST_THICKNESS;
        int greatestThickness = 0;
        int order = NONE;

        Card(int size, int holes, int tint) {
            this.size = size;
            this.holes = holes;
            this.tint = tint;
        }

        void sew(int i, int button, int thickness) {
            sewn[i] = button;
            leastThickness = Math.min(leastThickness, thickness);
            greatestThickness = Math.max(greatestThickness, thickness);
        }
    }

    private static final class Order {
        final int cards;
        final int size;
        final int holes;
        final int from;
        final int to;
        final int day;
        final int price;
        int sentOn = NONE;

        Order(int cards, int size, int holes, int from, int to, int day, int price) {
            this.cards = cards;
            this.size = size;
            this.holes = holes;
            this.from = from;
            this.to = to;
            this.day = day;
            this.price = price;
        }

        boolean takes(Card offered) {
            return offered.order == NONE && offered.size == size && offered.holes == holes
                    && isWithin(offered.tint, from, to);
        }

        int payOn(int sentDay) {
            return cards * (sentDay > day ? price / 2 : price);
        }
    }
}
