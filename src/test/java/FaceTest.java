import java.io.IOException;
import java.lang.reflect.Constructor;
import java.lang.reflect.Field;
import java.lang.reflect.Method;
import java.lang.reflect.Modifier;
import java.nio.file.Files;
import java.nio.file.Path;
import java.util.Set;
import java.util.TreeSet;

/** "The public face": what the class shows is what the document's section of that name writes out, and no more. */
public final class FaceTest {
    private static final Check CHECK = new Check();
    private static final Class<?> FACE = ButtonWorks.class;

    public static void main(String[] args) throws IOException, IllegalAccessException {
        String document = Files.readString(Path.of("..", "shared", "DOC.md"));
        int from = document.indexOf("```java", document.indexOf("## The public face"));
        membersAreTheDocuments(document.substring(from, document.indexOf("\n```", from)));
        nothingElseIsShown();
        noneIsMinusOne();
        classesInsideAreStaticAndNotShown();
        CHECK.finish();
    }

    private static void membersAreTheDocuments(String face) {
        Set<String> want = new TreeSet<>();
        for (String line : face.split("\n")) {
            String member = line.strip();
            if (member.startsWith("public ") && member.endsWith(";")) {
                want.add(withoutParameterNames(member.substring(0, member.length() - 1)));
            }
        }
        Set<String> got = new TreeSet<>();
        for (Method method : FACE.getDeclaredMethods()) {
            if (Modifier.isPublic(method.getModifiers())) {
                got.add(plain(method.toString()));
            }
        }
        for (Constructor<?> constructor : FACE.getDeclaredConstructors()) {
            got.add(plain(constructor.toString()));
        }
        for (Field field : FACE.getFields()) {
            got.add(plain(field.toString()) + " = -1");
        }
        CHECK.due("members that the document writes out", 22, want.size());
        CHECK.due("the members", want.toString(), got.toString());
        CHECK.due("the class", "public final", Modifier.toString(FACE.getModifiers()));
        CHECK.due("its package", "", FACE.getPackageName());
    }

    private static String withoutParameterNames(String member) {
        return member.replaceAll("int \\w+(?=[,)])", "int").replace(", ", ",");
    }

    private static String plain(String member) {
        return member.replaceAll("java\\.(lang|util)\\.", "").replace("ButtonWorks.", "");
    }

    private static void nothingElseIsShown() {
        Set<String> shown = new TreeSet<>();
        for (Method method : FACE.getDeclaredMethods()) {
            if (Modifier.isPublic(method.getModifiers())) {
                shown.add(method.getName());
            }
        }
        for (Method method : FACE.getDeclaredMethods()) {
            int how = method.getModifiers();
            CHECK.due(method + " is", "public or private",
                    Modifier.isPublic(how) || Modifier.isPrivate(how) ? "public or private" : "neither");
            CHECK.due(method + " bears a name of the face", Modifier.isPublic(how) ? "true" : "false",
                    Boolean.toString(shown.contains(method.getName())));
        }
        for (Field field : FACE.getDeclaredFields()) {
            boolean isPrivate = Modifier.isPrivate(field.getModifiers());
            CHECK.due(field + " is private", field.getName().equals("NONE") ? "false" : "true",
                    Boolean.toString(isPrivate));
        }
    }

    private static void noneIsMinusOne() throws IllegalAccessException {
        for (Field field : FACE.getFields()) {
            CHECK.due("NONE", -1, field.getInt(null));
        }
    }

    private static void classesInsideAreStaticAndNotShown() {
        for (Class<?> inside : FACE.getDeclaredClasses()) {
            int how = inside.getModifiers();
            CHECK.due(inside + " is static", "true", Boolean.toString(Modifier.isStatic(how)));
            CHECK.due(inside + " is shown", "false",
                    Boolean.toString(Modifier.isPublic(how) || Modifier.isProtected(how)));
        }
    }
}
