import java.util.NoSuchElementException;
import java.util.function.IntSupplier;

/** Counts the answers that are not as due; a test ends with finish(). */
final class Check {
    private int asked = 0;
    private int wrong = 0;

    void due(String call, int want, int got) {
        due(call, Integer.toString(want), Integer.toString(got));
    }

    void due(String call, String want, String got) {
        asked++;
        if (!got.equals(want)) {
            wrong++;
            System.out.println(call + " answered " + got + ", due is " + want);
        }
    }

    void noSuch(String call, IntSupplier made) {
        throwsOne(call, NoSuchElementException.class, made);
    }

    void badArgument(String call, IntSupplier made) {
        throwsOne(call, IllegalArgumentException.class, made);
    }

    private void throwsOne(String call, Class<? extends RuntimeException> want, IntSupplier made) {
        asked++;
        String got;
        try {
            got = "answered " + made.getAsInt();
        } catch (RuntimeException e) {
            if (e.getClass() == want) {
                return;
            }
            got = "threw " + e;
        }
        wrong++;
        System.out.println(call + " " + got + ", due is " + want.getSimpleName());
    }

    void finish() {
        System.out.println(asked + " answers asked, " + wrong + " not as due");
        if (wrong != 0 || asked == 0) {
            System.exit(1);
        }
    }
}
