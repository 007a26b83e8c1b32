import java.util.ArrayList;
import java.util.Arrays;
import java.util.Comparator;
import java.util.HashMap;
import java.util.List;
import java.util.Map;
import java.util.NoSuchElementException;

/** The document written a second time, plainly and slowly, with nothing kept that can be asked anew. */
final class PlainWorks {
    private static final class Shell {
        int rows;
        int columns;
        int tint;
        int[][] thickness;
        boolean cut;
    }

    private static final class Button {
        int number;
        int[] told = {0, 0, 0, 0, 0, 0, -1, -1, 0};
    }

    private static final class Card {
        List<Button> buttons;
        int order = -1;
    }

    private static final class Order {
        int number;
        int[] asked;
        int sent = -1;
        int pay = 0;
    }

    /** What the places from one on give: worth, blanks, and the sizes told for them. */
    private record Rest(int worth, int blanks, int[] sizes) {
        boolean isAheadOf(Rest other) {
            if (worth != other.worth) {
                return worth > other.worth;
            }
            if (blanks != other.blanks) {
                return blanks < other.blanks;
            }
            return Arrays.compare(sizes, other.sizes) > 0;
        }
    }

    private final List<Shell> shells = new ArrayList<>();
    private final List<Button> buttons = new ArrayList<>();
    private final List<Card> cards = new ArrayList<>();
    private final List<Order> orders = new ArrayList<>();
    private final int[][] worths = new int[4][10];
    private final int[] wear = new int[6];
    private final int[] stood = {100, 100, 100, 100, 100, 100};
    private final int[] did = new int[6];

    /** One call by its name. */
    int call(String name, int[] a) {
        switch (name) {
            case "shell": return shell(a);
            case "shellOf": return ofShell(one(shells, a[0]), a[1]);
            case "list": return list(a[0], a[1], a[2]);
            case "best": return best(one(shells, a[0]), a[1]);
            case "bestAt": return bestAt(one(shells, a[0]), a[1]);
            case "cut": return cut(one(shells, a[0]), a[0]);
            case "button": return at(one(buttons, a[0]).told, a[1]);
            case "stands": return stands(a[0], a[1]);
            case "work": return work(machineOf(a[0]), one(buttons, a[1]), a[2]);
            case "works": return works(machineOf(a[0]), a[1], a[2], a[3]);
            case "grind": return grind(machineOf(a[0]));
            case "machine": return machine(machineOf(a[0]), a[1]);
            case "bleach": return bleach(a[0], a[1]);
            case "card": return card(a[0], a[1], a[2], a[3]);
            case "cardOf": return ofCard(one(cards, a[0]), a[1]);
            case "onCard": return onCard(one(cards, a[0]), a[1]);
            case "order": return order(a);
            case "send": return send(a[0]);
            case "sent": return one(orders, a[0]).sent;
            case "count": return count(a[0]);
            default: throw new AssertionError(name);
        }
    }

    private static <T> T one(List<T> list, int i) {
        if (i < 0 || i >= list.size()) {
            throw new NoSuchElementException();
        }
        return list.get(i);
    }

    private static int at(int[] answers, int what) {
        if (what < 0 || what >= answers.length) {
            throw new NoSuchElementException();
        }
        return answers[what];
    }

    private static int machineOf(int machine) {
        at(new int[6], machine);
        return machine;
    }

    private static void need(boolean right) {
        if (!right) {
            throw new IllegalArgumentException();
        }
    }

    private static boolean in(int n, int from, int to) {
        return from <= n && n <= to;
    }

    private int shell(int[] a) {
        if (shells.size() == 30 || !in(a[0], 1, 6) || !in(a[1], 1, 6) || !in(a[2], 0, 9)) {
            return -1;
        }
        Shell s = new Shell();
        s.rows = a[0];
        s.columns = a[1];
        s.tint = a[2];
        s.thickness = new int[s.rows][s.columns];
        for (int r = 0; r < s.rows; r++) {
            for (int c = 0; c < s.columns; c++) {
                s.thickness[r][c] = (int) ((a[3 + r] & 0xFFFFFFFFL) / (long) Math.pow(16, c) % 16);
                if (s.thickness[r][c] > 9) {
                    return -1;
                }
            }
        }
        shells.add(s);
        return shells.size() - 1;
    }

    private static int ofShell(Shell s, int what) {
        return at(new int[] {s.rows, s.columns, s.tint, s.cut ? 1 : 0}, what);
    }

    private int list(int size, int thickness, int worth) {
        need(in(size, 1, 3) && in(thickness, 1, 9) && in(worth, 0, 999));
        int was = worths[size][thickness];
        worths[size][thickness] = worth;
        return was;
    }

    private int best(Shell s, int what) {
        Rest cut = rest(s, 0, 0L, new HashMap<>());
        return at(new int[] {cut.worth, cut.blanks}, what);
    }

    private int bestAt(Shell s, int place) {
        return at(rest(s, 0, 0L, new HashMap<>()).sizes, place);
    }

    private Rest rest(Shell s, int place, long taken, Map<Long, Rest> known) {
        int places = s.rows * s.columns;
        if (place == places) {
            return new Rest(0, 0, new int[0]);
        }
        // What is taken before this place no longer matters.
        long key = (taken >>> place << place) * 64 + place;
        Rest best = known.get(key);
        if (best != null) {
            return best;
        }
        for (int size = 0; size <= 3; size++) {
            long mask = mask(s, place, size);
            if (mask < 0 || (mask & taken) != 0) {
                continue;
            }
            Rest behind = rest(s, place + 1, taken | mask, known);
            int[] sizes = new int[places - place];
            sizes[0] = size;
            System.arraycopy(behind.sizes, 0, sizes, 1, behind.sizes.length);
            int worth = size == 0 ? 0 : worths[size][least(s, place, size)];
            Rest found = new Rest(behind.worth + worth, behind.blanks + (size == 0 ? 0 : 1), sizes);
            best = best == null || found.isAheadOf(best) ? found : best;
        }
        known.put(key, best);
        return best;
    }

    /** The places of a blank; -1 if there can be none. */
    private static long mask(Shell s, int place, int size) {
        int row = place / s.columns;
        int column = place % s.columns;
        if (row + size > s.rows || column + size > s.columns || size > 0 && least(s, place, size) == 0) {
            return -1;
        }
        long mask = 0;
        for (int r = row; r < row + size; r++) {
            for (int c = column; c < column + size; c++) {
                mask |= 1L << (r * s.columns + c);
            }
        }
        return mask;
    }

    private static int least(Shell s, int place, int size) {
        int least = 9;
        for (int r = 0; r < size; r++) {
            for (int c = 0; c < size; c++) {
                least = Math.min(least, s.thickness[place / s.columns + r][place % s.columns + c]);
            }
        }
        return least;
    }

    private int cut(Shell s, int number) {
        Rest cut = rest(s, 0, 0L, new HashMap<>());
        if (s.cut || buttons.size() + cut.blanks > 400) {
            return -1;
        }
        s.cut = true;
        for (int place = 0; place < cut.sizes.length; place++) {
            int size = cut.sizes[place];
            if (size > 0) {
                Button b = new Button();
                b.number = buttons.size();
                b.told = new int[] {size, least(s, place, size), s.tint, number, 0, 0, -1, -1, place};
                buttons.add(b);
            }
        }
        return cut.blanks;
    }

    private int stands(int machine, int v) {
        machineOf(machine);
        need(in(v, 1, 10000));
        int was = stood[machine];
        stood[machine] = v;
        return was;
    }

    private int work(int machine, Button b, int holes) {
        boolean turns = machine <= 2;
        boolean right = turns ? b.told[4] == 0
                : b.told[4] == 1 && (holes == 2 || holes == 4 && (b.told[0] == 2 || b.told[0] == 3));
        if (!right) {
            return -1;
        }
        wear[machine] += b.told[1];
        int above = wear[machine] - stood[machine];
        if (above > 0 && (above % 7 == 0 || above % b.told[1] == 0)) {
            b.told[4] = 3;
            b.told[6] = machine;
            return 0;
        }
        did[machine]++;
        b.told[4] = turns ? 1 : 2;
        b.told[5] = turns ? 0 : holes;
        return 1;
    }

    private int works(int machine, int from, int to, int holes) {
        need(from >= 0 && from <= to);
        int done = 0;
        for (Button b : buttons) {
            if (b.number >= from && b.number < to && work(machine, b, holes) == 1) {
                done++;
            }
        }
        return done;
    }

    private int grind(int machine) {
        int was = wear[machine];
        wear[machine] = 0;
        return was;
    }

    private int machine(int machine, int what) {
        int broke = (int) buttons.stream().filter(b -> b.told[6] == machine).count();
        return at(new int[] {wear[machine], stood[machine], did[machine], broke}, what);
    }

    private int bleach(int shell, int hours) {
        one(shells, shell);
        need(in(hours, 0, 9));
        int changed = 0;
        for (Button b : buttons) {
            if (b.told[3] == shell && b.told[4] < 3 && b.told[2] > 0 && hours > 0) {
                b.told[2] = Math.max(b.told[2] - hours, 0);
                changed++;
            }
        }
        return changed;
    }

    private int card(int size, int holes, int tint, int span) {
        need(in(size, 1, 3) && (holes == 2 || holes == 4) && in(tint, 0, 9) && in(span, 0, 8));
        List<Button> best = null;
        for (int t = 9; t >= 1; t--) {
            int least = t;
            List<Button> dozen = buttons.stream()
                    .filter(b -> b.told[4] == 2 && b.told[0] == size && b.told[5] == holes && b.told[2] == tint
                            && in(b.told[1], least, least + span))
                    .limit(12).toList();
            if (dozen.size() == 12 && (best == null || dozen.get(0).number <= best.get(0).number)) {
                best = dozen;
            }
        }
        if (best == null || cards.size() == 30) {
            return -1;
        }
        Card c = new Card();
        c.buttons = best;
        for (Button b : best) {
            b.told[4] = 4;
            b.told[7] = cards.size();
        }
        cards.add(c);
        return cards.size() - 1;
    }

    private static int ofCard(Card c, int what) {
        int[] first = c.buttons.get(0).told;
        int least = c.buttons.stream().mapToInt(b -> b.told[1]).min().getAsInt();
        int greatest = c.buttons.stream().mapToInt(b -> b.told[1]).max().getAsInt();
        return at(new int[] {first[0], first[5], first[2], least, greatest, c.order}, what);
    }

    private static int onCard(Card c, int i) {
        return one(c.buttons, i).number;
    }

    private int order(int[] a) {
        boolean right = in(a[0], 1, 9) && in(a[1], 1, 3) && (a[2] == 2 || a[2] == 4) && in(a[3], 0, 9)
                && in(a[4], 0, 9) && a[3] <= a[4] && in(a[5], 0, 999) && in(a[6], 0, 999);
        if (!right || orders.size() == 30) {
            return -1;
        }
        Order o = new Order();
        o.number = orders.size();
        o.asked = a.clone();
        orders.add(o);
        return o.number;
    }

    private int send(int day) {
        need(in(day, 0, 2000));
        int pay = 0;
        List<Order> sorted = new ArrayList<>(orders);
        sorted.sort(Comparator.comparingInt((Order o) -> o.asked[5]).thenComparingInt(o -> o.number));
        for (Order o : sorted) {
            List<Card> fit = cards.stream()
                    .filter(c -> c.order == -1 && ofCard(c, 0) == o.asked[1] && ofCard(c, 1) == o.asked[2]
                            && in(ofCard(c, 2), o.asked[3], o.asked[4]))
                    .limit(o.asked[0]).toList();
            if (o.sent == -1 && fit.size() == o.asked[0]) {
                fit.forEach(c -> c.order = o.number);
                o.sent = day;
                o.pay = o.asked[0] * (day > o.asked[5] ? o.asked[6] / 2 : o.asked[6]);
                pay += o.pay;
            }
        }
        return pay;
    }

    private int count(int what) {
        int broken = (int) buttons.stream().filter(b -> b.told[4] == 3).count();
        int sewn = (int) buttons.stream().filter(b -> b.told[4] == 4).count();
        int paid = orders.stream().mapToInt(o -> o.pay).sum();
        return at(new int[] {shells.size(), buttons.size(), cards.size(), orders.size(), broken, sewn, paid}, what);
    }
}
