import java.io.IOException;
import java.lang.reflect.Method;
import java.lang.reflect.Modifier;
import java.nio.file.Files;
import java.nio.file.Path;
import java.util.Arrays;
import java.util.Set;
import java.util.TreeSet;

/** The face of the class, and such rules of LANGUAGE.md as can be seen without reading the program. */
public final class LanguageTests {
    private static final Path SOURCE = Path.of("src/main/java/HoundlightProofs.java");
    private static final String[] FACE = {
        "int begin(int,int,int,int)", "int branch(int)", "int guard(int,int,int,int,int)",
        "int update(int,int,int,int,int)", "int guess(int,int,int,int)", "int learn(int,int)", "int run(int,int)",
        "int sift()", "int call()", "int ofGuess(int,int)", "boolean holds(int,int)", "int step(int,int)",
        "int ofState(int,int)", "int goal(int,int)", "long needed(int)", "int loop(int)", "long standing()",
        "String words(int)", "double part()", "int wouldKeep(int)", "int lies(int)", "int wouldEnd(int,int)",
        "boolean isSound()", "long digest()"};
    private static final String[] OUTSIDE = {"import ", "package ", "->", "::", "try ", "catch", "finally", "assert",
        "synchronized", "static {", "instanceof", "Object", "random", "Thread", "System.", "Exact", "@", " var "};

    private LanguageTests() {
    }

    public static void main(String[] args) throws IOException {
        face();
        names();
        source();
        Check.end("LanguageTests");
    }

    private static String told(Method method) {
        StringBuilder text = new StringBuilder(method.getReturnType().getSimpleName());
        text.append(' ').append(method.getName()).append('(');
        for (Class<?> type : method.getParameterTypes()) {
            text.append(text.charAt(text.length() - 1) == '(' ? "" : ",").append(type.getSimpleName());
        }
        return text.append(')').toString();
    }

    private static void face() {
        Set<String> open = new TreeSet<>();
        for (Method method : HoundlightProofs.class.getDeclaredMethods()) {
            if (!Modifier.isPrivate(method.getModifiers()) && !method.isSynthetic()) {
                open.add(told(method));
            }
        }
        Check.same("the methods that are not private", new TreeSet<>(Arrays.asList(FACE)), () -> open);
        Check.same("the class is public and final", Modifier.PUBLIC | Modifier.FINAL,
            () -> HoundlightProofs.class.getModifiers());
        Check.same("constructors", 1, () -> HoundlightProofs.class.getDeclaredConstructors().length);
        Check.same("fields that are not private", 0L, () -> Arrays.stream(HoundlightProofs.class.getDeclaredFields())
            .filter(field -> !Modifier.isPrivate(field.getModifiers())).count());
    }

    private static void names() {
        Set<String> taken = new TreeSet<>();
        for (String method : FACE) {
            taken.add(method.substring(method.indexOf(' ') + 1, method.indexOf('(')));
        }
        for (Class<?> inside : HoundlightProofs.class.getDeclaredClasses()) {
            Check.same(inside + " is static", true, () -> Modifier.isStatic(inside.getModifiers()));
            for (Method method : inside.getDeclaredMethods()) {
                Check.same(inside + " " + method.getName() + " has a name of its own", false,
                    () -> taken.contains(method.getName()));
            }
        }
        for (Method method : HoundlightProofs.class.getDeclaredMethods()) {
            Check.same(method.getName() + " has a name of its own", false,
                () -> Modifier.isPrivate(method.getModifiers()) && taken.contains(method.getName()));
        }
    }

    private static void source() throws IOException {
        String whole = Files.readString(SOURCE);
        String code = whole.replaceAll("\"[^\"\n]*\"", "\"\"").replaceAll("/\\*\\*.*?\\*/", "").replaceAll("//.*", "");
        for (String sign : OUTSIDE) {
            Check.same("the source has " + sign, false, () -> code.contains(sign));
        }
        Check.same("signs beside 1 to 127", false, () -> whole.chars().anyMatch(sign -> sign < 1 || sign > 127));
    }
}
