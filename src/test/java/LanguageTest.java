import com.sun.source.tree.BinaryTree;
import com.sun.source.tree.ClassTree;
import com.sun.source.tree.ForLoopTree;
import com.sun.source.tree.ImportTree;
import com.sun.source.tree.MethodTree;
import com.sun.source.tree.Tree;
import com.sun.source.tree.Tree.Kind;
import com.sun.source.tree.VariableTree;
import com.sun.source.util.TreePath;
import java.io.IOException;
import java.nio.file.Path;
import java.util.ArrayList;
import java.util.List;
import java.util.Map;
import java.util.Set;
import javax.lang.model.element.Element;
import javax.lang.model.element.ElementKind;
import javax.lang.model.element.Modifier;
import javax.lang.model.type.ArrayType;
import javax.lang.model.type.DeclaredType;
import javax.lang.model.type.TypeKind;
import javax.lang.model.type.TypeMirror;

/**
 * The rules of LANGUAGE.md, as far as they can be seen in the file of the program. Where the program needs less than
 * a rule leaves, the test asks for that less: it grows with the program.
 */
final class LanguageTest {
    private static final Check CHECK = new Check();

    /** What the rules rule out, and what they leave but the program does without. */
    private static final Set<Kind> UNUSED = Set.of(
            Kind.LAMBDA_EXPRESSION, Kind.MEMBER_REFERENCE, Kind.ANNOTATION, Kind.ANNOTATION_TYPE, Kind.ENUM,
            Kind.RECORD, Kind.INTERFACE, Kind.THROW, Kind.TRY, Kind.CATCH, Kind.SYNCHRONIZED, Kind.ASSERT,
            Kind.INSTANCE_OF, Kind.SWITCH, Kind.SWITCH_EXPRESSION, Kind.WHILE_LOOP, Kind.DO_WHILE_LOOP,
            Kind.DOUBLE_LITERAL, Kind.FLOAT_LITERAL, Kind.STRING_LITERAL, Kind.PACKAGE);

    private static final Set<String> LIBRARY = Set.of(
            "java.lang.Math.max", "java.lang.Math.min", "java.lang.Math.abs", "java.lang.System.arraycopy",
            "java.util.Arrays.fill");

    public static void main(String[] args) throws IOException {
        Program program = new Program(Path.of("src/main/java/LayeredPage.java"));
        oneFile(program);
        classesInside(program);
        types(program);
        library(program);
        staticFields(program);
        unused(program);
        comparedObjects(program);
        loops(program);
        recursionAndDepth(program);
        sizes(program);
        madeInConstructorsAlone(program);
        constructors(program);
        CHECK.end();
    }

    private static String at(Program program, Tree tree) {
        return "line " + program.lineOf(tree) + ": ";
    }

    // "one file ..: one public class with the document's face, and as many classes .. inside it as you like".
    private static void oneFile(Program program) {
        CHECK.due("classes that are not inside another", program.file.getTypeDecls().size(), 1);
        for (ImportTree line : program.file.getImports()) {
            String name = line.getQualifiedIdentifier().toString();
            CHECK.due("import of " + name + " is fine", name.equals("java.util.Arrays"), true);
        }
    }

    // Rule 1 and 2: "the classes inside it, which are private or package-visible and static", none local.
    private static void classesInside(Program program) {
        for (Map.Entry<Element, ClassTree> entry : program.classes.entrySet()) {
            Element made = entry.getKey();
            boolean outer = made.getSimpleName().contentEquals("LayeredPage");
            CHECK.due(made + " is public", made.getModifiers().contains(Modifier.PUBLIC), outer);
            CHECK.due(made + " is protected", made.getModifiers().contains(Modifier.PROTECTED), false);
            CHECK.due(made + " is static", made.getModifiers().contains(Modifier.STATIC), !outer);
            CHECK.due(made + " stands in a class", made.getEnclosingElement().getKind() == ElementKind.CLASS, !outer);
        }
    }

    // Rule 3: whole numbers and booleans, arrays of these and of own classes, of one dimension; own classes.
    private static void types(Program program) {
        for (TreePath path : program.all(Kind.VARIABLE)) {
            TypeMirror type = program.typeOf(path);
            TypeMirror part = type.getKind() == TypeKind.ARRAY ? ((ArrayType) type).getComponentType() : type;
            boolean number = part.getKind() == TypeKind.INT || part.getKind() == TypeKind.LONG;
            boolean own = part.getKind() == TypeKind.DECLARED
                    && program.classes.containsKey(((DeclaredType) part).asElement());
            boolean fine = number || own || part.getKind() == TypeKind.BOOLEAN;
            CHECK.due(at(program, path.getLeaf()) + path.getLeaf() + " is of a type that may be used", fine, true);
        }
    }

    // Rule 4: "The library: only what stands here."
    private static void library(Program program) {
        for (String name : program.libraryCalls()) {
            CHECK.due(name + " is in the part of the library that may be used", LIBRARY.contains(name), true);
        }
    }

    // Rule 5: "Static fields are final: constants of int, long ..", here with no arrays among them.
    private static void staticFields(Program program) {
        for (TreePath path : program.all(Kind.VARIABLE)) {
            Element field = program.elementOf(path);
            if (field.getModifiers().contains(Modifier.STATIC)) {
                boolean isFinal = field.getModifiers().contains(Modifier.FINAL);
                boolean isNumber = field.asType().getKind().isPrimitive();
                CHECK.due(at(program, path.getLeaf()) + field + " is a constant", isFinal && isNumber, true);
            }
        }
        for (TreePath path : program.all(Kind.BLOCK)) {
            boolean initialiser = path.getParentPath().getLeaf() instanceof ClassTree;
            CHECK.due(at(program, path.getLeaf()) + "a block that initialises", initialiser, false);
        }
    }

    // Rule 2, 6 and 13: no lambda, throw, try, catch, synchronized, assert, patterns and their like.
    private static void unused(Program program) {
        for (Kind kind : UNUSED) {
            List<TreePath> found = program.all(kind);
            String where = found.isEmpty() ? "" : at(program, found.get(0).getLeaf());
            CHECK.due(where + "how many of " + kind, found.size(), 0);
        }
    }

    // Rule 6: "No answer depends on which object it is": a reference is compared with null alone.
    private static void comparedObjects(Program program) {
        List<TreePath> compared = new ArrayList<>(program.all(Kind.EQUAL_TO));
        compared.addAll(program.all(Kind.NOT_EQUAL_TO));
        for (TreePath path : compared) {
            BinaryTree tree = (BinaryTree) path.getLeaf();
            TypeMirror left = program.typeOf(new TreePath(path, tree.getLeftOperand()));
            boolean fine = left.getKind().isPrimitive() || tree.getRightOperand().getKind() == Kind.NULL_LITERAL;
            CHECK.due(at(program, tree) + tree + " compares numbers, or with null", fine, true);
        }
    }

    // Rule 9: "Every loop has an end that can be seen from its own lines": a counter, a bound and a step.
    private static void loops(Program program) {
        for (TreePath path : program.all(Kind.FOR_LOOP)) {
            ForLoopTree loop = (ForLoopTree) path.getLeaf();
            boolean whole = loop.getInitializer().size() == 1 && loop.getCondition() != null
                    && loop.getUpdate().size() == 1;
            CHECK.due(at(program, loop) + "the loop has a counter, a bound and a step", whole, true);
        }
    }

    // Rule 8 and 11: "calls that are no recursion go at most eight deep"; there is no recursion.
    private static void recursionAndDepth(Program program) {
        for (Element method : program.methods.keySet()) {
            int depth = program.depthFrom(method, List.of());
            CHECK.due(method + " goes " + depth + " calls deep, which is too deep", depth > 8, false);
        }
    }

    // Rule 11: parameters, lines of a method, classes of the file, fields of a class.
    private static void sizes(Program program) {
        for (MethodTree method : program.methods.values()) {
            CHECK.due(method.getName() + " has too many parameters", method.getParameters().size() > 7, false);
            CHECK.due(method.getName() + " has too many lines", program.linesOf(method) > 60, false);
        }
        CHECK.due("too many classes", program.classes.size() > 12, false);
        for (Map.Entry<Element, ClassTree> entry : program.classes.entrySet()) {
            int fields = 0;
            for (Tree member : entry.getValue().getMembers()) {
                boolean field = member instanceof VariableTree;
                fields += field && !((VariableTree) member).getModifiers().getFlags().contains(Modifier.STATIC) ? 1 : 0;
            }
            CHECK.due(entry.getKey() + " has too many fields", fields > 20, false);
        }
    }

    // "make rows in constructors and use them again": here no call of a method makes anything.
    private static void madeInConstructorsAlone(Program program) {
        List<TreePath> made = new ArrayList<>(program.all(Kind.NEW_CLASS));
        made.addAll(program.all(Kind.NEW_ARRAY));
        for (TreePath path : made) {
            boolean inMethod = program.around(path).getKind() == ElementKind.METHOD;
            CHECK.due(at(program, path.getLeaf()) + path.getLeaf() + " in a method", inMethod, false);
        }
    }

    // Rule 12: "A constructor calls no method that another class could override".
    private static void constructors(Program program) {
        for (TreePath path : program.all(Kind.METHOD_INVOCATION)) {
            Set<Modifier> how = program.elementOf(path).getModifiers();
            boolean fixed = program.elementOf(path).getKind() == ElementKind.CONSTRUCTOR || how.contains(Modifier.FINAL)
                    || how.contains(Modifier.PRIVATE) || how.contains(Modifier.STATIC);
            boolean inMethod = program.around(path).getKind() == ElementKind.METHOD;
            CHECK.due(at(program, path.getLeaf()) + path.getLeaf() + " can't be overridden", inMethod || fixed, true);
        }
    }
}
