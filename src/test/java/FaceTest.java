import java.io.IOException;
import java.lang.reflect.Constructor;
import java.lang.reflect.Field;
import java.lang.reflect.Method;
import java.lang.reflect.Modifier;
import java.nio.file.Files;
import java.nio.file.Path;
import java.util.Set;
import java.util.TreeSet;
import java.util.regex.Matcher;
import java.util.regex.Pattern;

/** The document's face, and those rules of LANGUAGE.md that can be seen from outside. */
final class FaceTest {
    private static final Set<String> METHODS = Set.of("int person(int)", "boolean growth(int,int,int)",
            "int bulb(int,int,int)", "int month()", "int weight(int,int)", "int feed(int,int,int,int,int)",
            "int end(int)", "int house()", "int fault(int)", "int paper(int,int,int,int)", "int paperOf(int,int)",
            "int holds(int,int)", "int doubles()", "int purse(int)", "int left(int,int,int)",
            "int paid(int,int,int)", "int all(int,int)", "int fails(int)", "int hurts()", "int about(int)");

    private FaceTest() {
    }

    public static void main(String[] args) throws IOException {
        face();
        classesInside();
        source(Files.readString(Path.of("src/main/java/BulbPapers.java")));
        Check.finish();
    }

    private static void face() {
        Check.due("public and final", BulbPapers.class.getModifiers() == (Modifier.PUBLIC | Modifier.FINAL), true);
        Check.due("NONE", BulbPapers.NONE, -1);
        Set<String> seen = new TreeSet<>();
        for (Method method : BulbPapers.class.getDeclaredMethods()) {
            String text = text(method);
            boolean isPublic = method.getModifiers() == Modifier.PUBLIC;
            Check.due(text + " is public or private", isPublic || Modifier.isPrivate(method.getModifiers()), true);
            if (isPublic) {
                seen.add(text);
            }
            Check.due(text + " bears a public name", isPublic != isPublicName(method.getName()), false);
        }
        Check.due("the methods " + seen, seen.equals(METHODS), true);
        Constructor<?>[] constructors = BulbPapers.class.getDeclaredConstructors();
        Check.due("constructors", constructors.length, 1);
        Check.due("public", constructors[0].getModifiers(), Modifier.PUBLIC);
        Check.due("without parameters", constructors[0].getParameterCount(), 0);
        for (Field field : BulbPapers.class.getDeclaredFields()) {
            boolean isNone = field.getName().equals("NONE");
            Check.due(field + " private", Modifier.isPrivate(field.getModifiers()), !isNone);
        }
    }

    private static String text(Method method) {
        StringBuilder text = new StringBuilder(method.getReturnType() + " " + method.getName() + "(");
        for (Class<?> type : method.getParameterTypes()) {
            text.append(text.charAt(text.length() - 1) == '(' ? "" : ",").append(type);
        }
        return text.append(")").toString();
    }

    private static boolean isPublicName(String name) {
        return METHODS.stream().anyMatch(m -> m.contains(" " + name + "("));
    }

    private static void classesInside() {
        Class<?>[] inside = BulbPapers.class.getDeclaredClasses();
        Check.due("at most twelve classes", inside.length <= 11, true);
        for (Class<?> one : inside) {
            Check.due(one + " static", Modifier.isStatic(one.getModifiers()), true);
            Check.due(one + " hidden", (one.getModifiers() & (Modifier.PUBLIC | Modifier.PROTECTED)) == 0, true);
            for (Field field : one.getDeclaredFields()) {
                int modifiers = field.getModifiers();
                Check.due(field + " final if static", Modifier.isStatic(modifiers) && !Modifier.isFinal(modifiers), false);
            }
            for (Method method : one.getDeclaredMethods()) {
                Check.due(method + " bears a public name", isPublicName(method.getName()), false);
                Check.due(method + " has at most seven parameters", method.getParameterCount() <= 7, true);
            }
        }
    }

    private static void source(String source) {
        String code = source.replaceAll("(?s)/\\*.*?\\*/", "").replaceAll("//[^\n]*", "");
        Matcher matcher = Pattern.compile("\\b(throw|throws|try|catch|synchronized|assert|package|System|Thread"
                + "|Random|\\w+Exact|Object|hashCode|double|float)\\b|->|::").matcher(code);
        Check.due(matcher.find() ? "a word that is ruled out: " + matcher.group() : "no word ruled out",
                matcher.reset().find(), false);
        Matcher imports = Pattern.compile("import ([^;]+);").matcher(code);
        while (imports.find()) {
            Check.due("import of " + imports.group(1), imports.group(1).equals("java.util.Arrays"), true);
        }
    }
}
