import java.io.IOException;
import java.lang.reflect.Constructor;
import java.lang.reflect.Field;
import java.lang.reflect.Method;
import java.lang.reflect.Modifier;
import java.nio.file.Files;
import java.nio.file.Path;
import java.util.ArrayList;
import java.util.List;
import java.util.regex.Matcher;
import java.util.regex.Pattern;

/** The rules of LANGUAGE.md that can be seen without running the program. Runs in the project's folder. */
public final class LanguageTest {
    /** What the program needs of no rule, though some rules would let a little of it through. */
    private static final String[] BANNED = {
        "->", "::", "\\bimport\\b", "\\bpackage\\b", "\\bsynchronized\\b", "\\bassert\\b", "\\bfinally\\b",
        "\\btry\\b", "\\bcatch\\b", "\\bvar\\b", "\\bextends\\b", "\\binstanceof\\b", "\\bstatic\\s*\\{",
        "\\bSystem\\b", "\\bMath\\b", "\\bThread\\b", "\\bRandom\\b", "\\bObject\\b", "\\bequals\\b",
        "\\bhashCode\\b", "\\btoString\\b", "\\bprotected\\b", "\\bwhile\\s*\\(\\s*true\\s*\\)",
        "\\bfor\\s*\\(\\s*;", "\\[\\]\\s*\\[\\]\\s*\\[\\]", "@",
    };

    public static void main(String[] args) throws IOException {
        Due due = new Due("LanguageTest");
        String source = Files.readString(Path.of("src/main/java/Pathwarden.java"));
        String code = withoutTexts(source);
        for (String banned : BANNED) {
            Matcher matcher = Pattern.compile(banned).matcher(code);
            due.same("the program has " + banned, false, matcher.find());
        }
        onlyThreeExceptions(due, code);
        shortMethods(due, code);
        classes(due);
        due.end();
    }

    private static String withoutTexts(String source) {
        return source.replaceAll("(?s)/\\*.*?\\*/", "").replaceAll("//[^\n]*", "").replaceAll("\"[^\"\n]*\"", "\"\"");
    }

    private static void onlyThreeExceptions(Due due, String code) {
        Matcher matcher = Pattern.compile("\\bthrow\\b([^;]*);").matcher(code);
        String plain = " new (IndexOutOfBounds|IllegalArgument|IllegalState)Exception\\(\"\"\\)";
        while (matcher.find()) {
            due.same("throw" + matcher.group(1), true, matcher.group(1).matches(plain));
        }
    }

    /** Methods stand four or eight blanks in, and end by a brace that stands as far in. */
    private static void shortMethods(Due due, String code) {
        String[] lines = code.split("\n");
        for (int from = 0; from < lines.length; from++) {
            Matcher head = Pattern.compile("^( {4}| {8})(?!.*\\bclass\\b)\\S.*\\).*\\{$").matcher(lines[from]);
            if (!head.find()) {
                continue;
            }
            int to = from;
            while (!lines[to].equals(head.group(1) + "}")) {
                to++;
            }
            due.same("too long: " + lines[from].trim(), true, to - from < 60);
        }
    }

    private static void classes(Due due) {
        List<Class<?>> all = new ArrayList<>(List.of(Pathwarden.class.getDeclaredClasses()));
        all.add(Pathwarden.class);
        due.same("at most twelve classes", true, all.size() <= 12);
        for (Class<?> one : all) {
            int fields = 0;
            for (Field field : one.getDeclaredFields()) {
                boolean isStatic = Modifier.isStatic(field.getModifiers());
                fields += isStatic ? 0 : 1;
                due.same(field + " is final, or of an object", true, !isStatic || Modifier.isFinal(field.getModifiers()));
            }
            due.same(one + " has at most twenty fields", true, fields <= 20);
            for (Method method : one.getDeclaredMethods()) {
                due.same(method + " takes at most seven", true, method.getParameterCount() <= 7);
            }
            for (Constructor<?> constructor : one.getDeclaredConstructors()) {
                due.same(constructor + " takes at most seven", true, constructor.getParameterCount() <= 7);
            }
        }
    }
}
