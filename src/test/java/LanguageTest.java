import com.sun.source.tree.ExpressionTree;
import com.sun.source.tree.ForLoopTree;
import com.sun.source.tree.LiteralTree;
import com.sun.source.tree.NewClassTree;
import com.sun.source.tree.ThrowTree;
import com.sun.source.tree.Tree;
import java.io.IOException;
import java.nio.file.Path;
import java.util.List;
import java.util.Set;
import javax.lang.model.element.Element;
import javax.lang.model.element.ElementKind;
import javax.lang.model.element.ExecutableElement;
import javax.lang.model.element.Modifier;
import javax.lang.model.element.NestingKind;
import javax.lang.model.element.TypeElement;

/**
 * The rules of LANGUAGE.md, by their numbers, as far as the source shows them; FaceTest holds rule 1.
 * Where the program needs less than a rule lets through, the test lets through no more than it needs.
 * Runs in the project's folder.
 */
public final class LanguageTest {
    private static final int DEEPEST = 8, MOST_PARAMETERS = 7, MOST_LINES = 60, MOST_CLASSES = 12, MOST_FIELDS = 20;

    private static final Set<Tree.Kind> NOT_WRITTEN = Set.of(
            Tree.Kind.PACKAGE, Tree.Kind.IMPORT, Tree.Kind.LAMBDA_EXPRESSION, Tree.Kind.MEMBER_REFERENCE,
            Tree.Kind.SYNCHRONIZED, Tree.Kind.ASSERT, Tree.Kind.TRY, Tree.Kind.CATCH, Tree.Kind.ANNOTATION,
            Tree.Kind.INSTANCE_OF, Tree.Kind.TYPE_CAST, Tree.Kind.ENHANCED_FOR_LOOP, Tree.Kind.DIVIDE,
            Tree.Kind.INTERFACE, Tree.Kind.ENUM, Tree.Kind.RECORD, Tree.Kind.SWITCH, Tree.Kind.SWITCH_EXPRESSION);

    private static final Set<String> TYPES = Set.of("int", "boolean", "int[]", "boolean[]", "int[][]");
    private static final Set<String> EXCEPTIONS = Set.of(
            "IndexOutOfBoundsException", "IllegalArgumentException", "IllegalStateException");
    private static final Set<String> LIBRARY = Set.of("java.lang.Integer.bitCount(int)");

    private final Due due = new Due("LanguageTest");
    private final Source source;

    private LanguageTest(Source source) {
        this.source = source;
    }

    public static void main(String[] args) throws IOException {
        LanguageTest all = new LanguageTest(new Source(Path.of("src/main/java/Pathwarden.java")));
        all.kinds();
        all.classes();
        all.types();
        all.library();
        all.staticFields();
        all.exceptions();
        all.recursion();
        all.loops();
        all.divisors();
        all.sizes();
        all.depth();
        all.objects();
        all.due.end();
    }

    private void holds(int rule, String what, boolean right) {
        due.same("rule " + rule + ": " + what, true, right);
    }

    /** What rules 1, 2, 6 and 10 leave out, and what the program does without though they leave it in. */
    private void kinds() {
        for (Source.Part part : source.parts()) {
            due.same("the program has " + part, false, NOT_WRITTEN.contains(part.tree().getKind()));
        }
    }

    private void classes() {
        List<Source.Part> classes = source.parts(Tree.Kind.CLASS);
        holds(11, "at most some twelve classes", classes.size() <= MOST_CLASSES);
        for (Source.Part part : classes) {
            TypeElement one = (TypeElement) part.meant();
            Set<Modifier> how = one.getModifiers();
            boolean isOuter = one.getNestingKind() == NestingKind.TOP_LEVEL;
            holds(2, one + " is a member and static", isOuter || part.round() == null && how.contains(Modifier.STATIC));
            holds(12, one + " is final, so that no class overrides what is in it", how.contains(Modifier.FINAL));
            holds(2, one + " is above all others", one.getSuperclass().toString().equals("java.lang.Object"));
            long fields = one.getEnclosedElements().stream()
                    .filter(e -> e.getKind() == ElementKind.FIELD && !e.getModifiers().contains(Modifier.STATIC)).count();
            holds(11, one + " has at most some twenty fields", fields <= MOST_FIELDS);
        }
    }

    private void types() {
        for (Source.Part part : source.parts(Tree.Kind.VARIABLE)) {
            holds(3, part + " is of the type " + part.type(), TYPES.contains(part.type()) || isOwn(part.type()));
        }
        for (Source.Part part : source.parts(Tree.Kind.NEW_ARRAY)) {
            holds(3, part + " is of the type " + part.type(), TYPES.contains(part.type()));
        }
    }

    private static boolean isOwn(String type) {
        return type.matches("Pathwarden(\\.\\w+)?");
    }

    private void library() {
        for (ExecutableElement method : source.methods().keySet()) {
            for (ExecutableElement called : source.callsOf(method)) {
                String name = called.getEnclosingElement() + "." + called;
                boolean isException = EXCEPTIONS.contains(called.getEnclosingElement().getSimpleName().toString());
                holds(4, method + " calls " + name,
                        source.methods().containsKey(called) || isOwnConstructor(called) || isException || LIBRARY.contains(name));
            }
        }
    }

    private static boolean isOwnConstructor(ExecutableElement called) {
        return called.getKind() == ElementKind.CONSTRUCTOR && isOwn(called.getEnclosingElement().toString());
    }

    private void staticFields() {
        for (Source.Part part : source.parts(Tree.Kind.VARIABLE)) {
            Element field = part.meant();
            if (field.getKind() == ElementKind.FIELD && field.getModifiers().contains(Modifier.STATIC)) {
                holds(5, part + " is a constant", field.getModifiers().contains(Modifier.FINAL) && part.type().equals("int"));
            }
        }
        for (Source.Part part : source.parts(Tree.Kind.BLOCK)) {
            holds(5, "a block outside methods: " + part, part.round() != null);
        }
    }

    private void exceptions() {
        for (Source.Part part : source.parts(Tree.Kind.THROW)) {
            holds(6, part + " names an exception and a written text", isPlainThrow((ThrowTree) part.tree()));
            holds(6, part + " is in no constructor", part.round().getKind() == ElementKind.METHOD);
        }
    }

    private static boolean isPlainThrow(ThrowTree thrown) {
        if (!(thrown.getExpression() instanceof NewClassTree made) || made.getClassBody() != null) {
            return false;
        }
        List<? extends ExpressionTree> arguments = made.getArguments();
        return EXCEPTIONS.contains(made.getIdentifier().toString())
                && (arguments.isEmpty() || arguments.size() == 1 && arguments.get(0) instanceof LiteralTree);
    }

    /** One method that calls itself is private and static; several that call one another are private. */
    private void recursion() {
        for (ExecutableElement method : source.methods().keySet()) {
            Set<ExecutableElement> round = source.roundOf(method);
            if (!round.isEmpty()) {
                Set<Modifier> how = method.getModifiers();
                boolean isStatic = how.contains(Modifier.STATIC);
                holds(8, method + " calls itself", how.contains(Modifier.PRIVATE) && (isStatic || round.size() > 1));
                holds(8, method + " or one that it calls again looks at the depth", round.stream().anyMatch(this::looksAtDepth));
            }
        }
    }

    /** An argument against a constant, as in: if (depth >= MOST_HOLDERS). */
    private boolean looksAtDepth(ExecutableElement method) {
        return source.parts(Tree.Kind.GREATER_THAN_EQUAL).stream().anyMatch(part -> method.equals(part.round())
                && method.getParameters().stream().anyMatch(p -> part.tree().toString().matches(p + " >= [A-Z_]+")));
    }

    private void loops() {
        for (Source.Part part : source.parts(Tree.Kind.FOR_LOOP)) {
            ForLoopTree loop = (ForLoopTree) part.tree();
            holds(9, part + " has a bound and a step", loop.getCondition() != null && loop.getUpdate().size() == 1);
        }
        for (Source.Part part : source.parts(Tree.Kind.WHILE_LOOP, Tree.Kind.DO_WHILE_LOOP)) {
            holds(9, part + " has a bound", part.tree().toString().contains(" < "));
        }
    }

    /** No remainder but by a constant, so that there is no divisor to look at. */
    private void divisors() {
        for (Source.Part part : source.parts(Tree.Kind.REMAINDER, Tree.Kind.REMAINDER_ASSIGNMENT)) {
            holds(7, part + " has a constant divisor", part.tree().toString().endsWith("% MODULUS"));
        }
        for (Source.Part part : source.parts(Tree.Kind.PLUS, Tree.Kind.PLUS_ASSIGNMENT)) {
            holds(10, part + " joins no texts", part.type().equals("int"));
        }
    }

    private void sizes() {
        source.methods().forEach((method, tree) -> {
            holds(11, method + " takes at most seven", method.getParameters().size() <= MOST_PARAMETERS);
            holds(11, method + " has at most some sixty lines", source.lines(tree) <= MOST_LINES);
        });
    }

    /** The call from outside counts as the first, and those of the library count too. */
    private void depth() {
        for (ExecutableElement method : source.methods().keySet()) {
            List<ExecutableElement> deepest = source.deepestFrom(method);
            holds(11, "calls go " + deepest.size() + " deep: " + deepest, deepest.size() <= DEEPEST);
        }
    }

    /** Rows and parts are made with the object, so that no call makes anything but what it throws. */
    private void objects() {
        for (Source.Part part : source.parts(Tree.Kind.NEW_CLASS, Tree.Kind.NEW_ARRAY)) {
            boolean isWithTheObject = part.round() == null || part.round().getKind() == ElementKind.CONSTRUCTOR;
            boolean isThrown = part.type().startsWith("java.lang.") && part.type().endsWith("Exception");
            holds(12, part + " is made with the object", isWithTheObject || isThrown);
        }
        for (ExecutableElement method : source.methods().keySet()) {
            boolean isConstructor = method.getKind() == ElementKind.CONSTRUCTOR;
            holds(12, method + " calls constructors alone", !isConstructor
                    || source.callsOf(method).stream().allMatch(called -> called.getKind() == ElementKind.CONSTRUCTOR));
        }
    }
}
