import java.io.IOException;
import java.lang.reflect.Method;
import java.lang.reflect.Modifier;
import java.nio.file.Files;
import java.nio.file.Path;
import java.util.Arrays;
import java.util.Set;
import java.util.TreeSet;
import java.util.regex.Matcher;
import java.util.regex.Pattern;

/** README.md: its example answers what stands behind each call, and no call of the face is left out. */
public final class ReadmeTest {
    private static final Check CHECK = new Check();
    private static final Pattern ROW = Pattern.compile("works\\.(\\w+)\\(([^)]*)\\);\\s*// (-?\\d+|throws\\.\\w+)");
    private static final Pattern ANY_CALL = Pattern.compile("^works\\.", Pattern.MULTILINE);
    private static final Pattern TABLE_ROW = Pattern.compile("^\\| `(\\w+)\\(([^)]*)\\)` \\|", Pattern.MULTILINE);

    public static void main(String[] args) throws IOException {
        String readme = Files.readString(Path.of("README.md"));
        Set<String> shown = exampleAnswersAsItSays(readme);
        CHECK.due("calls in the example", namesOfTheFace().toString(), shown.toString());
        CHECK.due("calls in the tables", namesOfTheFace().toString(), tableNames(readme).toString());
        CHECK.finish();
    }

    private static Set<String> exampleAnswersAsItSays(String readme) {
        ButtonWorks works = new ButtonWorks();
        PlainWorks plain = new PlainWorks();
        Set<String> shown = new TreeSet<>();
        Matcher row = ROW.matcher(readme);
        int rows = 0;
        while (row.find()) {
            String name = row.group(1);
            int[] numbers = Arrays.stream(row.group(2).split(", ")).mapToInt(Integer::decode).toArray();
            Call call = new Call(name, numbers);
            CHECK.due("README, " + call, row.group(3), call.answerOf(works));
            CHECK.due("README, plainly, " + call, row.group(3), Call.answer(() -> plain.call(name, numbers)));
            shown.add(name);
            rows++;
        }
        CHECK.due("calls in the example with an answer behind", (int) ANY_CALL.matcher(readme).results().count(), rows);
        return shown;
    }

    private static Set<String> tableNames(String readme) {
        Set<String> names = new TreeSet<>();
        Matcher row = TABLE_ROW.matcher(readme);
        while (row.find()) {
            names.add(row.group(1));
            for (Method method : ButtonWorks.class.getDeclaredMethods()) {
                if (method.getName().equals(row.group(1))) {
                    CHECK.due("README, numbers of " + row.group(1), method.getParameterCount(),
                            row.group(2).split(", ").length);
                }
            }
        }
        return names;
    }

    private static Set<String> namesOfTheFace() {
        Set<String> names = new TreeSet<>();
        for (Method method : ButtonWorks.class.getDeclaredMethods()) {
            if (Modifier.isPublic(method.getModifiers())) {
                names.add(method.getName());
            }
        }
        return names;
    }
}
