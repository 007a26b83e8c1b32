import java.util.Map;
import java.util.Random;
import java.util.TreeMap;

/** Runs of 512 drawn calls on new objects, each answer compared with that of PlainWorks. */
public final class PlainWorksTest {
    private static final int RUNS = 400;
    private static final int CALLS = 512;
    private static final int[] EDGES = {Integer.MIN_VALUE, -2, -1, 0, 1, 7, 10, 12, 30, 36, 400, 1000, 2001, 10001,
        Integer.MAX_VALUE};
    private static final String[] NAMES = {"shell", "shellOf", "list", "best", "bestAt", "cut", "button", "stands",
        "work", "works", "grind", "machine", "bleach", "card", "cardOf", "onCard", "order", "send", "sent", "count"};
    private static final int[] WEIGHTS = {5, 1, 5, 3, 6, 5, 12, 1, 4, 12, 2, 3, 4, 12, 4, 4, 4, 4, 2, 3};

    private final Random random;
    private final ButtonWorks works = new ButtonWorks();
    private final PlainWorks plain = new PlainWorks();
    private final int thicknesses;
    private final int tints;
    private final StringBuilder told = new StringBuilder();

    private PlainWorksTest(int seed) {
        random = new Random(seed);
        thicknesses = 1 + random.nextInt(9);
        tints = 1 + random.nextInt(3);
    }

    public static void main(String[] args) {
        Map<String, Integer> reached = new TreeMap<>();
        int wrong = 0;
        for (int seed = 0; seed < RUNS; seed++) {
            wrong += new PlainWorksTest(seed).run(seed, reached) ? 0 : 1;
        }
        System.out.println(RUNS + " runs, " + wrong + " not as due; kinds of answers: " + reached);
        if (wrong != 0 || reached.getOrDefault("send paid", 0) == 0 || reached.getOrDefault("card made", 0) == 0) {
            System.exit(1);
        }
    }

    private boolean run(int seed, Map<String, Integer> reached) {
        for (int i = 0; i < CALLS; i++) {
            String name = drawName();
            int[] a = drawArguments(name);
            Call call = new Call(name, a);
            String want = Call.answer(() -> plain.call(name, a));
            String got = call.answerOf(works);
            told.append(call).append(" = ").append(got).append('\n');
            if (!got.equals(want)) {
                System.out.println("run " + seed + ", due at the end is " + want + ":\n" + told);
                return false;
            }
            note(reached, name, got);
        }
        return true;
    }

    private static void note(Map<String, Integer> reached, String name, String got) {
        String kind = got.startsWith("throws") ? name + " " + got
                : got.equals("-1") ? name + " NONE"
                : name.equals("card") ? "card made"
                : name.equals("send") && !got.equals("0") ? "send paid" : name;
        reached.merge(kind, 1, Integer::sum);
    }

    private String drawName() {
        int sum = 0;
        for (int w : WEIGHTS) {
            sum += w;
        }
        int drawn = random.nextInt(sum);
        int i = 0;
        while (drawn >= WEIGHTS[i]) {
            drawn -= WEIGHTS[i];
            i++;
        }
        return NAMES[i];
    }

    private int[] drawArguments(String name) {
        int[] a = rightArguments(name);
        if (random.nextInt(25) == 0) {
            a[random.nextInt(a.length)] = EDGES[random.nextInt(EDGES.length)];
        }
        return a;
    }

    private int[] rightArguments(String name) {
        int shell = below(count(0));
        int button = below(count(1));
        int card = below(count(2));
        switch (name) {
            case "shell": return drawShell();
            case "shellOf": return new int[] {shell, below(4)};
            case "list": return new int[] {1 + below(3), 1 + below(thicknesses), drawWorth()};
            case "best": return new int[] {shell, below(2)};
            case "bestAt": return new int[] {shell, below(36)};
            case "cut": return new int[] {shell};
            case "button": return new int[] {button, below(9)};
            case "stands": return new int[] {below(6), 1 + below(random.nextBoolean() ? 200 : 10000)};
            case "work": return new int[] {below(6), button, 2 + 2 * below(2)};
            case "works": return new int[] {below(6), below(2) * button, button + below(100), 2 + 2 * below(2)};
            case "grind": return new int[] {below(6)};
            case "machine": return new int[] {below(6), below(4)};
            case "bleach": return new int[] {shell, below(4)};
            case "card": return new int[] {1 + below(3), 2 + 2 * below(2), below(tints), below(9)};
            case "cardOf": return new int[] {card, below(6)};
            case "onCard": return new int[] {card, below(12)};
            case "order": return new int[] {1 + below(3), 1 + below(2), 2 + 2 * below(2), below(2), 1 + below(9),
                below(1000), below(1000)};
            case "send": return new int[] {below(2001)};
            case "sent": return new int[] {below(count(3))};
            case "count": return new int[] {below(7)};
            default: throw new AssertionError(name);
        }
    }

    /** Asked of the plain one, as the other is to have its 512 calls and no more. */
    private int count(int what) {
        return plain.call("count", new int[] {what});
    }

    private int[] drawShell() {
        int[] a = {1 + below(6), 1 + below(6), below(tints), 0, 0, 0, 0, 0, 0};
        if (random.nextBoolean()) {
            a[0] = 6;
            a[1] = 6;
        }
        int flaws = below(12);
        for (int r = 0; r < 6; r++) {
            for (int c = 0; c < 8; c++) {
                int thickness = below(36) < flaws ? 0 : 1 + below(thicknesses);
                a[3 + r] |= (c < a[1] ? thickness : below(16)) << (4 * c);
            }
        }
        return a;
    }

    private int drawWorth() {
        return random.nextInt(4) == 0 ? below(1000) : below(10);
    }

    private int below(int n) {
        return n < 1 ? 0 : random.nextInt(n);
    }
}
