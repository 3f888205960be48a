import java.io.IOException;
import java.lang.reflect.Constructor;
import java.lang.reflect.Field;
import java.lang.reflect.Method;
import java.lang.reflect.Modifier;
import java.nio.file.Files;
import java.nio.file.Path;
import java.util.ArrayList;
import java.util.List;
import java.util.Set;
import java.util.TreeSet;

/**
 * The public face: its constants, its constructor, its methods with their throws clauses, and no other.
 * Runs in the project's folder.
 */
public final class FaceTest {
    private static final String I = "IndexOutOfBoundsException", A = "IllegalArgumentException", S = "IllegalStateException";

    private static final String[] METHODS = {
        "int holder(int) " + I + " " + S,
        "int belong(int,int) " + I,
        "int roll(int) " + I + " " + S,
        "int publish(int,int) " + I + " " + A,
        "int pass(int) " + A + " " + S,
        "int grant(int,int,int,int,int) " + I + " " + A + " " + S,
        "int origin(int,int,int,int,int,int) " + I + " " + A + " " + S,
        "int vouch(int,int,int,int) " + I + " " + A + " " + S,
        "boolean revoke(int) " + I,
        "int alter(int,int) " + I + " " + S + " " + A,
        "int sign(int) " + I,
        "int hop(int) " + I + " " + S,
        "int hear(int,int) " + A + " " + S,
        "int withdraw(int) " + I + " " + S,
        "int tie(int,int,int) " + I + " " + A,
        "int today()",
        "int objects()",
        "int judged(int) " + I,
        "boolean has(int,int,int) " + I + " " + A,
        "boolean hasByChains(int,int,int) " + I + " " + A,
        "int state(int,int,int) " + I + " " + A,
        "int routes()",
        "int path(int,boolean) " + I,
        "int leak(int) " + I,
        "int stopped(int,int) " + I + " " + A,
        "int allowed(int,int) " + I,
        "int falseAlarms()",
        "int clique()",
        "int inferred(int,int,int) " + I,
        "int cone(int) " + I,
        "int coneByPaths(int) " + I,
        "int addresses(int) " + I,
    };

    private static final String[] CONSTANTS = {
        "NONE -1", "GRANT 0", "ORIGIN 1", "VOUCHER 2",
        "GOOD 0", "LATE 1", "REVOKED 2", "STALE 3", "FORGED 4", "OUTSIDE 5",
        "NOT_FOUND 0", "VALID 1", "INVALID 2", "NOTHING 0", "CUSTOMER 1", "PROVIDER 2", "PEER 3",
    };

    public static void main(String[] args) throws IllegalAccessException, IOException {
        Due due = new Due("FaceTest");
        due.same("the methods", new TreeSet<>(List.of(METHODS)), methods());
        due.same("the constants", new TreeSet<>(List.of(CONSTANTS)), constants());
        due.same("the constructors", "[public Pathwarden()]", constructors().toString());
        due.same("the class", Modifier.PUBLIC | Modifier.FINAL, Pathwarden.class.getModifiers());
        for (Class<?> inside : Pathwarden.class.getDeclaredClasses()) {
            int how = inside.getModifiers();
            due.same(inside + " is static", true, Modifier.isStatic(how));
            due.same(inside + " is seen outside", false, Modifier.isPublic(how) || Modifier.isProtected(how));
        }
        noNameTwice(due);
        due.same("the face as the document writes it", promised(), written());
        due.end();
    }

    private static Set<String> methods() {
        Set<String> found = new TreeSet<>();
        for (Method method : Pathwarden.class.getDeclaredMethods()) {
            if (Modifier.isPrivate(method.getModifiers())) {
                continue;
            }
            List<String> parameters = new ArrayList<>();
            for (Class<?> type : method.getParameterTypes()) {
                parameters.add(type.getName());
            }
            StringBuilder text = new StringBuilder(method.getReturnType().getName() + " " + method.getName());
            text.append("(").append(String.join(",", parameters)).append(")");
            for (Class<?> type : method.getExceptionTypes()) {
                text.append(" ").append(type.getSimpleName());
            }
            found.add(text.toString());
        }
        return found;
    }

    private static Set<String> constants() throws IllegalAccessException {
        Set<String> found = new TreeSet<>();
        for (Field field : Pathwarden.class.getDeclaredFields()) {
            int how = field.getModifiers();
            if (Modifier.isPrivate(how)) {
                continue;
            }
            boolean isConstant = Modifier.isPublic(how) && Modifier.isStatic(how) && Modifier.isFinal(how);
            found.add(field.getName() + " " + (isConstant ? field.getInt(null) : "is no constant"));
        }
        return found;
    }

    private static List<String> constructors() {
        List<String> found = new ArrayList<>();
        for (Constructor<?> constructor : Pathwarden.class.getDeclaredConstructors()) {
            found.add(constructor.toString());
        }
        return found;
    }

    private static List<String> promised() throws IOException {
        List<String> found = new ArrayList<>();
        for (String line : Files.readAllLines(Path.of("../shared/DOC.md"))) {
            if (line.startsWith("    public ") && line.endsWith(");") || line.matches("    public .* throws .*;")) {
                found.add(line.substring(4, line.length() - 1));
            }
        }
        return found;
    }

    /** With the names of the parameters, which a compiled class does not keep. */
    private static List<String> written() throws IOException {
        List<String> found = new ArrayList<>();
        new Source(Path.of("src/main/java/Pathwarden.java")).methods().forEach((method, tree) -> {
            if (method.getModifiers().contains(javax.lang.model.element.Modifier.PUBLIC)) {
                boolean isConstructor = tree.getReturnType() == null;
                StringBuilder text = new StringBuilder("public ");
                text.append(isConstructor ? "Pathwarden" : tree.getReturnType() + " " + tree.getName());
                text.append("(").append(listed(tree.getParameters())).append(")");
                text.append(tree.getThrows().isEmpty() ? "" : " throws " + listed(tree.getThrows()));
                found.add(text.toString());
            }
        });
        return found;
    }

    private static String listed(List<?> parts) {
        return String.join(", ", parts.stream().map(String::valueOf).toList());
    }

    private static void noNameTwice(Due due) {
        Set<String> open = new TreeSet<>();
        for (Method method : Pathwarden.class.getMethods()) {
            open.add(method.getName());
        }
        List<Class<?>> all = new ArrayList<>(List.of(Pathwarden.class.getDeclaredClasses()));
        all.add(Pathwarden.class);
        for (Class<?> one : all) {
            for (Method method : one.getDeclaredMethods()) {
                boolean isHidden = one != Pathwarden.class || Modifier.isPrivate(method.getModifiers());
                due.same(method + " bears a public name", false, isHidden && open.contains(method.getName()));
            }
        }
    }
}
