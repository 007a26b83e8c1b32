import java.util.ArrayList;
import java.util.List;

/**
 * A run of calls on a new object that tests one sentence of the document. No object is asked more than the
 * 512 calls for which the document promises answers.
 *
 * Of a call that is refused or throws it is also seen that it leaves everything as it was: on new objects the
 * calls that went before are made again, with and without it, and then all is asked that can be asked.
 */
final class Run {
    private static final int MOST_CALLS = 512;

    private final Check check;
    private final String sentence;
    private final ButtonWorks works = new ButtonWorks();
    private int calls = 0;
    /** The calls that may have changed something. */
    private final List<Call> history = new ArrayList<>();
    /** All that can be asked after the history; null if it was not asked yet. */
    private List<String> told = null;

    Run(Check check, String sentence) {
        this.check = check;
        this.sentence = sentence;
    }

    /** A call that must be answered by a number, whichever it is. */
    int does(String name, int... a) {
        Call call = new Call(name, a);
        String got = next(call);
        remember(call);
        boolean throwsOne = got.startsWith("throws");
        check.due(sentence + ": " + call + " answers a number", "number", throwsOne ? got : "number");
        return throwsOne ? ButtonWorks.NONE : Integer.parseInt(got);
    }

    void due(int want, String name, int... a) {
        Call call = new Call(name, a);
        check.due(sentence + ": " + call, Integer.toString(want), next(call));
        remember(call);
    }

    /** The call answers NONE, and nothing changes. */
    void none(String name, int... a) {
        refused("-1", new Call(name, a));
    }

    void noSuch(String name, int... a) {
        refused("throws.NoSuchElementException", new Call(name, a));
    }

    void badArgument(String name, int... a) {
        refused("throws.IllegalArgumentException", new Call(name, a));
    }

    /** Machines that break nothing. */
    void strong() {
        for (int machine = 0; machine < 6; machine++) {
            does("stands", machine, 10000);
        }
    }

    /** A shell of rows of six places, all of one thickness; its number. */
    int even(int rows, int tint, int thickness) {
        int r = Works.row(thickness);
        return does("shell", rows, 6, tint, r, r, r, r, r, r);
    }

    /** Blanks of size 1 out of an even shell, six from each row; the shell's number. */
    int blanks(int rows, int tint, int thickness) {
        does("list", 1, thickness, 1);
        int shell = even(rows, tint, thickness);
        due(6 * rows, "cut", shell);
        return shell;
    }

    /** Blanks as those, turned and drilled with two holes. */
    int drilled(int rows, int tint, int thickness) {
        int first = does("count", 1);
        int shell = blanks(rows, tint, thickness);
        due(6 * rows, "works", 0, first, first + 6 * rows, 0);
        due(6 * rows, "works", 3, first, first + 6 * rows, 2);
        return shell;
    }

    /** Cards of size 1 with two holes. */
    void cards(int cards, int tint, int thickness) {
        for (int i = 0; i < cards; i++) {
            drilled(2, tint, thickness);
            does("card", 1, 2, tint, 0);
        }
    }

    static final int BUSY_SHELLS = 4;
    static final int BUSY_UNCUT = 3;
    static final int BUSY_BUTTONS = 54;
    static final int BUSY_CARDS = 2;
    static final int BUSY_ORDERS = 2;
    static final int BUSY_ON_CARD = 0;
    static final int BUSY_DRILLED = 24;
    static final int BUSY_TURNED = 27;
    static final int BUSY_BLANK = 40;
    static final int BUSY_BROKEN_AT_DRILLING = 29;
    static final int BUSY_BROKEN_AT_TURNING = 52;

    /** Works in which there is something of every kind, and in every state. */
    void busy() {
        strong();
        cards(1, 5, 4);
        cards(1, 6, 4);
        due(0, "order", 1, 1, 2, 5, 5, 10, 100);
        due(1, "order", 2, 1, 2, 0, 9, 20, 50);
        due(100, "send", 10);
        blanks(5, 7, 3);
        due(6, "works", 0, 24, 30, 0);
        due(3, "works", 3, 24, 27, 2);
        does("stands", 5, 3);
        due(1, "work", 5, 28, 2);
        due(0, "work", 5, BUSY_BROKEN_AT_DRILLING, 2);
        does("stands", 2, 3);
        due(1, "work", 2, 53, 0);
        due(0, "work", 2, BUSY_BROKEN_AT_TURNING, 0);
        due(BUSY_UNCUT, "shell", 2, 2, 2, 0x45, 0x54);
        does("list", 2, 4, 77);
    }

    private void refused(String want, Call call) {
        check.due(sentence + ": " + call, want, next(call));
        if (told == null) {
            told = allTold(history);
        }
        List<Call> with = new ArrayList<>(history);
        with.add(call);
        List<String> now = allTold(with);
        int at = firstUnlike(told, now);
        check.due(sentence + ": after " + call, rowAt(told, at), rowAt(now, at));
    }

    private static int firstUnlike(List<String> one, List<String> other) {
        int at = 0;
        while (at < one.size() && at < other.size() && one.get(at).equals(other.get(at))) {
            at++;
        }
        return at;
    }

    private static String rowAt(List<String> rows, int at) {
        return at < rows.size() ? rows.get(at) : "nothing more";
    }

    private String next(Call call) {
        calls++;
        if (calls > MOST_CALLS) {
            throw new AssertionError("more calls than are promised: " + sentence);
        }
        return call.answerOf(works);
    }

    private void remember(Call call) {
        history.add(call);
        told = null;
    }

    private static ButtonWorks after(List<Call> before) {
        ButtonWorks again = new ButtonWorks();
        for (Call call : before) {
            call.answerOf(again);
        }
        return again;
    }

    /** Each question changes nothing, so that any number of objects may share them. */
    private static List<String> allTold(List<Call> before) {
        List<String> answers = new ArrayList<>();
        ButtonWorks asked = null;
        int left = 0;
        for (Call question : questions(after(before))) {
            if (left == 0) {
                asked = after(before);
                left = MOST_CALLS - before.size();
            }
            answers.add(question + " = " + question.answerOf(asked));
            left--;
        }
        answers.addAll(listTold(after(before)));
        answers.addAll(laterTold(after(before)));
        return answers;
    }

    private static List<Call> questions(ButtonWorks works) {
        List<Call> questions = new ArrayList<>();
        for (int what = 0; what <= 6; what++) {
            questions.add(new Call("count", what));
        }
        for (int machine = 0; machine < 6; machine++) {
            askEach(questions, "machine", machine, 4);
        }
        int shells = works.count(0);
        int buttons = works.count(1);
        int cards = works.count(2);
        int orders = works.count(3);
        for (int shell = 0; shell < shells; shell++) {
            askEach(questions, "shellOf", shell, 4);
            askEach(questions, "best", shell, 2);
            askEach(questions, "bestAt", shell, works.shellOf(shell, 0) * works.shellOf(shell, 1));
        }
        for (int button = 0; button < buttons; button++) {
            askEach(questions, "button", button, 9);
        }
        for (int card = 0; card < cards; card++) {
            askEach(questions, "cardOf", card, 6);
            askEach(questions, "onCard", card, 12);
        }
        for (int order = 0; order < orders; order++) {
            questions.add(new Call("sent", order));
        }
        return questions;
    }

    private static void askEach(List<Call> questions, String name, int of, int whats) {
        for (int what = 0; what < whats; what++) {
            questions.add(new Call(name, of, what));
        }
    }

    /** What no question tells, as the terms of an order, is seen by what comes of it. */
    private static List<String> laterTold(ButtonWorks works) {
        int cards = works.count(2);
        List<Call> calls = new ArrayList<>();
        calls.add(new Call("shell", 1, 1, 0, 1));
        calls.add(new Call("order", 1, 1, 2, 0, 9, 999, 1));
        calls.add(new Call("works", 1, 0, 400, 0));
        calls.add(new Call("works", 4, 0, 400, 2));
        for (int tint = 0; tint <= 9; tint++) {
            calls.add(new Call("card", 1, 2, tint, 8));
        }
        calls.add(new Call("send", 500));
        for (int what = 0; what <= 6; what++) {
            calls.add(new Call("count", what));
        }
        for (int card = 0; card < cards; card++) {
            calls.add(new Call("cardOf", card, 5));
        }
        List<String> answers = new ArrayList<>();
        for (Call call : calls) {
            answers.add("later " + call + " = " + call.answerOf(works));
        }
        return answers;
    }

    /** A worth is told only by a new one in its place. */
    private static List<String> listTold(ButtonWorks works) {
        List<String> answers = new ArrayList<>();
        for (int size = 1; size <= 3; size++) {
            for (int thickness = 1; thickness <= 9; thickness++) {
                answers.add("worth of " + size + ", " + thickness + " = " + works.list(size, thickness, 0));
            }
        }
        return answers;
    }
}
