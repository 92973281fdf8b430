import java.io.IOException;
import java.lang.reflect.Field;
import java.lang.reflect.Method;
import java.lang.reflect.Modifier;
import java.nio.file.Files;
import java.nio.file.Path;
import java.util.ArrayList;
import java.util.List;
import java.util.Set;
import java.util.TreeSet;
import java.util.regex.Matcher;
import java.util.regex.Pattern;

/** Those of the rules of LANGUAGE.md that can be seen in the words of the source; run from the project's folder. */
public final class LanguageTest {
    private static final String[] BANNED = {
        "\\bimport\\b", "\\bpackage\\b", "->", "::", "\\bcatch\\b", "\\btry\\b", "\\bfinally\\b", "\\bassert\\b",
        "\\bsynchronized\\b", "\\bprotected\\b", "\\bstatic\\s*\\{", "Exact\\s*\\(", "\\bObject\\b", "\\.equals\\b",
        "\\bhashCode\\b", "\\btoString\\b", "\\bString\\b", "\\bSystem\\.(?!arraycopy\\b)", "\\bMath\\.(?!floorMod\\b)",
        "arraycopy\\(other\\.rings\\b",
        "\\bwhile \\(true\\)", "for \\(;;\\)", "\\bstatic (?!final\\b|boolean isWithin\\b|boolean isReel\\b)",
        "new (?!Room\\(|Reels\\(|Jobs\\(|History\\(|CommandText\\(|int\\[|boolean\\[|Room\\[|"
                + "(IllegalArgument|IllegalState|IndexOutOfBounds)Exception\\(\"\"\\))\\w",
    };

    public static void main(String[] args) throws IOException {
        String source = Files.readString(Path.of("src/main/java/ReelConsole.java"));
        source = source.replaceAll("(?s)/\\*.*?\\*/", "").replaceAll("//[^\n]*", "");
        source = source.replaceAll("\"[^\"\n]*\"", "\"\"");
        for (String banned : BANNED) {
            Matcher matcher = Pattern.compile(banned).matcher(source);
            Check.due("a place of " + banned, "none", matcher.find() ? matcher.group() : "none");
        }
        noOwnMethodIsNamedAsOneOfTheFace(source);
        methodsAreShort(source);
        classesAreFewAndSmall();
        Check.end("LanguageTest");
    }

    private static void noOwnMethodIsNamedAsOneOfTheFace(String source) {
        Set<String> face = new TreeSet<>();
        List<String> own = new ArrayList<>();
        Matcher method = Pattern.compile(
                "(?m)^ {4,8}(public |private )?(static )?(?:int|boolean|double|void) (\\w+)\\(").matcher(source);
        while (method.find()) {
            if ("public ".equals(method.group(1))) {
                face.add(method.group(3));
            } else {
                own.add(method.group(3));
            }
        }
        Check.due("methods of the face", 26, face.size());
        own.retainAll(face);
        Check.due("own methods with a name of the face", List.of(), own);
    }

    private static void methodsAreShort(String source) {
        int begun = -1;
        String[] lines = source.split("\n");
        for (int line = 0; line < lines.length; line++) {
            if (lines[line].matches(" {4}( {4})?\\S.*\\(.*") && !lines[line].endsWith(";")) {
                begun = line;
            } else if (lines[line].matches(" {4}( {4})?\\}") && begun >= 0) {
                if (line - begun > 60) {
                    Check.due("lines of the method " + lines[begun].trim(), "60 at most", line - begun + 1);
                }
                begun = -1;
            }
        }
    }

    private static void classesAreFewAndSmall() {
        Class<?>[] inside = ReelConsole.class.getDeclaredClasses();
        Check.due("at most twelve classes", true, inside.length < 12);
        hasFewFieldsAndParameters(ReelConsole.class);
        for (Class<?> own : inside) {
            Check.due(own + " is static", true, Modifier.isStatic(own.getModifiers()));
            hasFewFieldsAndParameters(own);
        }
    }

    private static void hasFewFieldsAndParameters(Class<?> own) {
        int fields = 0;
        for (Field field : own.getDeclaredFields()) {
            boolean isStatic = Modifier.isStatic(field.getModifiers());
            Check.due(field + " is final, if it is static", true,
                    !isStatic || Modifier.isFinal(field.getModifiers()));
            fields += isStatic ? 0 : 1;
        }
        Check.due(own + " has at most twenty fields", true, fields <= 20);
        for (Method method : own.getDeclaredMethods()) {
            Check.due(method + " has at most seven parameters", true, method.getParameterCount() <= 7);
        }
    }
}
