import java.util.Arrays;
import java.util.function.IntSupplier;

/** A call told by its name and its numbers; its answer is told as a text, "throws." before an exception's name. */
record Call(String name, int... a) {
    String answerOf(ButtonWorks works) {
        return answer(() -> make(works));
    }

    static String answer(IntSupplier call) {
        try {
            return Integer.toString(call.getAsInt());
        } catch (RuntimeException e) {
            return "throws." + e.getClass().getSimpleName();
        }
    }

    /** Rows that are not told of a shell are 0. */
    private int row(int i) {
        return i < a.length - 3 ? a[3 + i] : 0;
    }

    private int make(ButtonWorks works) {
        switch (name) {
            case "shell": return works.shell(a[0], a[1], a[2], row(0), row(1), row(2), row(3), row(4), row(5));
            case "shellOf": return works.shellOf(a[0], a[1]);
            case "list": return works.list(a[0], a[1], a[2]);
            case "best": return works.best(a[0], a[1]);
            case "bestAt": return works.bestAt(a[0], a[1]);
            case "cut": return works.cut(a[0]);
            case "button": return works.button(a[0], a[1]);
            case "stands": return works.stands(a[0], a[1]);
            case "work": return works.work(a[0], a[1], a[2]);
            case "works": return works.works(a[0], a[1], a[2], a[3]);
            case "grind": return works.grind(a[0]);
            case "machine": return works.machine(a[0], a[1]);
            case "bleach": return works.bleach(a[0], a[1]);
            case "card": return works.card(a[0], a[1], a[2], a[3]);
            case "cardOf": return works.cardOf(a[0], a[1]);
            case "onCard": return works.onCard(a[0], a[1]);
            case "order": return works.order(a[0], a[1], a[2], a[3], a[4], a[5], a[6]);
            case "send": return works.send(a[0]);
            case "sent": return works.sent(a[0]);
            case "count": return works.count(a[0]);
            default: throw new AssertionError(name);
        }
    }

    @Override
    public String toString() {
        String numbers = Arrays.toString(a);
        return name + "(" + numbers.substring(1, numbers.length() - 1) + ")";
    }
}
