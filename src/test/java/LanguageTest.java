import com.sun.source.tree.BinaryTree;
import com.sun.source.tree.ClassTree;
import com.sun.source.tree.CompilationUnitTree;
import com.sun.source.tree.IdentifierTree;
import com.sun.source.tree.MemberSelectTree;
import com.sun.source.tree.MethodInvocationTree;
import com.sun.source.tree.MethodTree;
import com.sun.source.tree.NewArrayTree;
import com.sun.source.tree.NewClassTree;
import com.sun.source.tree.Tree;
import com.sun.source.tree.TypeCastTree;
import com.sun.source.tree.VariableTree;
import com.sun.source.util.JavacTask;
import com.sun.source.util.TreePathScanner;
import com.sun.source.util.Trees;
import java.io.IOException;
import java.nio.file.Files;
import java.nio.file.Path;
import java.util.EnumSet;
import java.util.HashMap;
import java.util.HashSet;
import java.util.List;
import java.util.Map;
import java.util.Set;
import javax.lang.model.element.Element;
import javax.lang.model.element.ElementKind;
import javax.lang.model.element.ExecutableElement;
import javax.lang.model.element.Modifier;
import javax.lang.model.element.TypeElement;
import javax.lang.model.type.ArrayType;
import javax.lang.model.type.DeclaredType;
import javax.lang.model.type.TypeKind;
import javax.lang.model.type.TypeMirror;
import javax.tools.JavaCompiler;
import javax.tools.StandardJavaFileManager;
import javax.tools.ToolProvider;

/** The rules of LANGUAGE.md that only the program's text shows, read by the compiler's own parser. */
public final class LanguageTest {
    private static final Path PROGRAM = Path.of("src/main/java/ShipFixtures.java");

    /** Of what rule 4 lists only this is used; another name of that list may be added here when it is needed. */
    private static final Set<String> LIBRARY = Set.of("System.arraycopy", "Math.max", "Math.min", "Long.bitCount",
            "Array.length");

    /** What rules 2 and 6 leave out, and what a class that throws nothing has no use for. */
    private static final Set<Tree.Kind> LEFT_OUT = EnumSet.of(Tree.Kind.IMPORT, Tree.Kind.PACKAGE,
            Tree.Kind.LAMBDA_EXPRESSION, Tree.Kind.MEMBER_REFERENCE, Tree.Kind.SYNCHRONIZED, Tree.Kind.ASSERT,
            Tree.Kind.TRY, Tree.Kind.THROW, Tree.Kind.TYPE_CAST, Tree.Kind.INSTANCE_OF);

    private static Trees trees;
    private static CompilationUnitTree unit;
    /** Which methods a method calls, the library's too. */
    private static final Map<Element, Set<Element>> CALLS = new HashMap<>();

    public static void main(String[] args) throws IOException {
        onlyPlainSigns();
        JavaCompiler compiler = ToolProvider.getSystemJavaCompiler();
        try (StandardJavaFileManager files = compiler.getStandardFileManager(null, null, null)) {
            JavacTask task = (JavacTask) compiler.getTask(null, files, null, null, null,
                    files.getJavaFileObjects(PROGRAM));
            unit = task.parse().iterator().next();
            task.analyze();
            trees = Trees.instance(task);
            Checks.due("classes that stand for themselves", unit.getTypeDecls().size(), 1);
            new Scan().scan(unit, null);
        }
        Checks.holds("calls were found", CALLS.size() > 20);
        for (Element method : CALLS.keySet()) {
            Checks.holds(name(method) + " goes at most eight deep", depth(method, new HashSet<>()) <= 8);
        }
        Checks.finish("LanguageTest");
    }

    private static void onlyPlainSigns() throws IOException {
        for (byte sign : Files.readAllBytes(PROGRAM)) {
            if (sign != '\n' && (sign < 32 || sign > 126)) {
                Checks.due("a sign of the program, as it is no plain one", sign, ' ');
            }
        }
    }

    private static String name(Element element) {
        return element.getEnclosingElement().getSimpleName() + "." + element.getSimpleName();
    }

    /** A call into the library is a level as well; a method that comes back to itself is as deep as can be. */
    private static int depth(Element method, Set<Element> above) {
        if (!above.add(method)) {
            return 1000;
        }
        int deepest = 0;
        for (Element called : CALLS.getOrDefault(method, Set.of())) {
            deepest = Math.max(deepest, depth(called, above));
        }
        above.remove(method);
        return deepest + 1;
    }

    private static boolean isOurs(Element element) {
        Element outer = element;
        while (outer != null && outer.getKind() != ElementKind.PACKAGE) {
            if (outer.getSimpleName().contentEquals("ShipFixtures")) {
                return true;
            }
            outer = outer.getEnclosingElement();
        }
        return false;
    }

    private static boolean isPlainType(TypeMirror type) {
        if (type.getKind() == TypeKind.ARRAY) {
            return isPlainType(((ArrayType) type).getComponentType());
        }
        return type.getKind().isPrimitive() || isOurs(((DeclaredType) type).asElement());
    }

    private static final class Scan extends TreePathScanner<Void, Void> {
        private MethodTree method;
        private Element methodElement;
        private int classes;

        @Override
        public Void scan(Tree tree, Void nothing) {
            if (tree != null && LEFT_OUT.contains(tree.getKind())) {
                boolean isNumberCast = tree.getKind() == Tree.Kind.TYPE_CAST && isNumber(tree);
                Checks.holds("line " + line(tree) + ": " + tree.getKind() + " is left out", isNumberCast);
            }
            return super.scan(tree, nothing);
        }

        private boolean isNumber(Tree cast) {
            return ((TypeCastTree) cast).getType().getKind() == Tree.Kind.PRIMITIVE_TYPE;
        }

        private long line(Tree tree) {
            return unit.getLineMap().getLineNumber(trees.getSourcePositions().getStartPosition(unit, tree));
        }

        private long lastLine(Tree tree) {
            return unit.getLineMap().getLineNumber(trees.getSourcePositions().getEndPosition(unit, tree));
        }

        @Override
        public Void visitClass(ClassTree tree, Void nothing) {
            classes++;
            Checks.holds("at most twelve classes", classes <= 12);
            int fields = 0;
            for (Tree member : tree.getMembers()) {
                Checks.holds("no initialiser block", member.getKind() != Tree.Kind.BLOCK);
                if (member instanceof VariableTree field && !field.getModifiers().getFlags().contains(Modifier.STATIC)) {
                    fields++;
                }
            }
            Checks.holds(tree.getSimpleName() + " has at most twenty fields", fields <= 20);
            return super.visitClass(tree, nothing);
        }

        @Override
        public Void visitMethod(MethodTree tree, Void nothing) {
            method = tree;
            methodElement = trees.getElement(getCurrentPath());
            CALLS.putIfAbsent(methodElement, new HashSet<>());
            String name = name(methodElement);
            Checks.holds(name + " takes at most seven parameters", tree.getParameters().size() <= 7);
            Checks.holds(name + " is short", lastLine(tree) - line(tree) < 60);
            super.visitMethod(tree, nothing);
            method = null;
            methodElement = null;
            return null;
        }

        @Override
        public Void visitVariable(VariableTree tree, Void nothing) {
            Element variable = trees.getElement(getCurrentPath());
            Checks.holds("line " + line(tree) + ": " + tree.getName() + " is of a plain type",
                    isPlainType(variable.asType()));
            Set<Modifier> flags = tree.getModifiers().getFlags();
            if (flags.contains(Modifier.STATIC)) {
                Checks.holds(tree.getName() + " is a constant",
                        flags.contains(Modifier.FINAL) && variable.asType().getKind().isPrimitive());
            }
            return super.visitVariable(tree, nothing);
        }

        /** What is made is made once, by constructors and fields: no call makes anything. */
        @Override
        public Void visitNewClass(NewClassTree tree, Void nothing) {
            madeOnce(tree);
            return super.visitNewClass(tree, nothing);
        }

        @Override
        public Void visitNewArray(NewArrayTree tree, Void nothing) {
            madeOnce(tree);
            return super.visitNewArray(tree, nothing);
        }

        private void madeOnce(Tree tree) {
            Checks.holds("line " + line(tree) + ": made by a constructor or a field",
                    method == null || methodElement.getKind() == ElementKind.CONSTRUCTOR);
        }

        @Override
        public Void visitMethodInvocation(MethodInvocationTree tree, Void nothing) {
            Element called = trees.getElement(getCurrentPath());
            boolean isSuper = called.getKind() == ElementKind.CONSTRUCTOR;
            if (called instanceof ExecutableElement && methodElement != null && !isSuper) {
                CALLS.get(methodElement).add(called);
            }
            return super.visitMethodInvocation(tree, nothing);
        }

        @Override
        public Void visitMemberSelect(MemberSelectTree tree, Void nothing) {
            uses(tree, trees.getElement(getCurrentPath()));
            return super.visitMemberSelect(tree, nothing);
        }

        @Override
        public Void visitIdentifier(IdentifierTree tree, Void nothing) {
            uses(tree, trees.getElement(getCurrentPath()));
            return super.visitIdentifier(tree, nothing);
        }

        private void uses(Tree tree, Element used) {
            boolean isType = used instanceof TypeElement;
            boolean isBare = used.getEnclosingElement() == null || name(used).equals("Object.<init>");
            if (isOurs(used) || isBare || isType && List.of("System", "Math", "Long").contains(tree.toString())) {
                return;
            }
            Checks.holds("line " + line(tree) + ": " + tree + " is in the library", LIBRARY.contains(name(used)));
        }

        @Override
        public Void visitBinary(BinaryTree tree, Void nothing) {
            TypeMirror type = trees.getTypeMirror(getCurrentPath());
            Checks.holds("line " + line(tree) + ": a number or a truth", type.getKind().isPrimitive());
            if (tree.getKind() == Tree.Kind.REMAINDER) {
                Checks.holds("line " + line(tree) + ": the divisor is written out",
                        tree.getRightOperand().getKind() == Tree.Kind.INT_LITERAL);
            }
            return super.visitBinary(tree, nothing);
        }
    }
}
