import java.io.IOException;
import java.lang.reflect.Field;
import java.lang.reflect.Method;
import java.lang.reflect.Modifier;
import java.nio.file.Files;
import java.nio.file.Path;
import java.util.Arrays;
import java.util.Set;
import java.util.TreeSet;
import java.util.regex.Matcher;
import java.util.regex.Pattern;

/** The document's face and no more, and the rules of LANGUAGE.md that can be seen from outside. */
public final class FaceTest {
    private static final String[] FACE = {
        "int back(int)", "int barred(int,int,int,int)", "int breed(int,int,int,int)", "int changed(int,int,int)",
        "int clash(int,int,int)", "int classed(int,int)", "int count(int)", "int counts(int,int,int)",
        "int dog(int,int,int,int,int)", "int enter(int,int)", "int fact(int,int,int,int)",
        "int feed(int,int,int,int,int)", "int owned(int,int,int)", "int owner(int,int,int)",
        "int parted(int,int,int,int)", "int place()", "int plan(int,int)", "int planned(int,int,int)",
        "int points(int,int,int)", "int read()", "int show(int)", "int title(int,int)", "int winner(int,int,int)",
        "boolean kin(int,int)", "boolean permits(int,int)", "boolean rings(int)"};
    private static final Pattern FORBIDDEN = Pattern.compile(
            "\\b(throw|throws|try|catch|synchronized|assert|import|hashCode|toString)\\b|->|::|Exact\\b");
    private static final Check CHECK = new Check("FaceTest");

    public static void main(String[] args) throws IOException {
        publicMethods();
        otherMembers();
        innerClasses();
        source(Files.readString(Path.of(args[0], "src/main/java/ShowRings.java")));
        CHECK.end();
    }

    private static String face(Method method) {
        StringBuilder all = new StringBuilder(method.getReturnType() + " " + method.getName() + "(");
        String comma = "";
        for (Class<?> type : method.getParameterTypes()) {
            all.append(comma).append(type);
            comma = ",";
        }
        return all.append(")").toString();
    }

    private static void publicMethods() {
        Set<String> want = new TreeSet<>(Arrays.asList(FACE));
        Set<String> names = new TreeSet<>();
        for (Method method : ShowRings.class.getDeclaredMethods()) {
            if (!Modifier.isPrivate(method.getModifiers())) {
                CHECK.due("in the face: " + face(method), want.remove(face(method)), true);
                names.add(method.getName());
            }
        }
        CHECK.due("missing methods " + want, want.size(), 0);
        for (Class<?> part : ShowRings.class.getDeclaredClasses()) {
            for (Method method : part.getDeclaredMethods()) {
                CHECK.due("a public name in " + part + ": " + method.getName(), names.contains(method.getName()), false);
            }
        }
        for (Method method : ShowRings.class.getDeclaredMethods()) {
            boolean hidden = Modifier.isPrivate(method.getModifiers());
            CHECK.due("a private " + method.getName(), hidden && names.contains(method.getName()), false);
            CHECK.due("parameters of " + method.getName(), method.getParameterCount() <= 7, true);
        }
    }

    private static void otherMembers() {
        CHECK.due("final", Modifier.isFinal(ShowRings.class.getModifiers()), true);
        CHECK.due("constructors", ShowRings.class.getDeclaredConstructors().length, 1);
        for (Field field : ShowRings.class.getDeclaredFields()) {
            boolean seen = !Modifier.isPrivate(field.getModifiers());
            CHECK.due("seen field " + field.getName(), seen, field.getName().equals("NONE"));
        }
    }

    private static void innerClasses() {
        Class<?>[] parts = ShowRings.class.getDeclaredClasses();
        CHECK.due("classes in all", parts.length + 1 <= 12, true);
        for (Class<?> part : parts) {
            CHECK.due("static " + part, Modifier.isStatic(part.getModifiers()), true);
            int fields = 0;
            for (Field field : part.getDeclaredFields()) {
                boolean isStatic = Modifier.isStatic(field.getModifiers());
                CHECK.due("final " + field, !isStatic || Modifier.isFinal(field.getModifiers()), true);
                fields += isStatic ? 0 : 1;
            }
            CHECK.due("fields of " + part, fields <= 20, true);
        }
    }

    private static void source(String text) {
        String code = text.replaceAll("(?s)/\\*.*?\\*/", "").replaceAll("//[^\\n]*", "").replaceAll("\"[^\"]*\"", "\"\"");
        Matcher found = FORBIDDEN.matcher(code);
        while (found.find()) {
            CHECK.due("in the source: " + found.group(), 1, 0);
        }
        CHECK.due("loops that might not end", Pattern.compile("\\bwhile\\b").matcher(code).find(), false);
    }
}
