import com.sun.source.tree.AssignmentTree;
import com.sun.source.tree.BinaryTree;
import com.sun.source.tree.CompilationUnitTree;
import com.sun.source.tree.CompoundAssignmentTree;
import com.sun.source.tree.MethodInvocationTree;
import com.sun.source.tree.MethodTree;
import com.sun.source.tree.NewClassTree;
import com.sun.source.tree.ThrowTree;
import com.sun.source.tree.Tree;
import com.sun.source.tree.TypeCastTree;
import com.sun.source.util.JavacTask;
import com.sun.source.util.TreePath;
import com.sun.source.util.TreePathScanner;
import com.sun.source.util.Trees;
import java.io.IOException;
import java.nio.file.Path;
import java.util.LinkedHashMap;
import java.util.LinkedHashSet;
import java.util.List;
import java.util.Map;
import java.util.Set;
import javax.lang.model.element.Element;
import javax.lang.model.element.ElementKind;
import javax.lang.model.element.Modifier;
import javax.lang.model.element.VariableElement;
import javax.lang.model.type.TypeMirror;
import javax.tools.JavaCompiler;
import javax.tools.StandardJavaFileManager;
import javax.tools.ToolProvider;

/** The rules of the language that are seen only with the types of all that stands in the source. */
public final class CallsTest {
    private static final int MOST_DEEP = 8;
    private static final Check CHECK = new Check("CallsTest");

    public static void main(String[] args) throws IOException {
        JavaCompiler compiler = ToolProvider.getSystemJavaCompiler();
        try (StandardJavaFileManager files = compiler.getStandardFileManager(null, null, null)) {
            JavacTask task = (JavacTask) compiler.getTask(null, files, null, List.of("-proc:none"), null,
                    files.getJavaFileObjects(Path.of("src/main/java/Branchwork.java")));
            Iterable<? extends CompilationUnitTree> units = task.parse();
            task.analyze();
            Reader reader = new Reader(Trees.instance(task));
            reader.scan(units, null);
            CHECK.holds("methods were met", reader.calls.size() > 100);
            depths(reader.calls);
        }
        CHECK.end();
    }

    private static void depths(Map<Element, Set<Element>> calls) {
        int deepest = 0;
        for (Element method : calls.keySet()) {
            int depth = depth(method, calls, new LinkedHashSet<>());
            deepest = Math.max(deepest, depth);
            CHECK.holds(method.getEnclosingElement() + "." + method + " goes at most eight deep (" + depth + ")",
                    depth <= MOST_DEEP);
        }
        CHECK.holds("calls were met", deepest > 2);
    }

    /** How many calls stand open at once, that of the method and those of the library with it. */
    private static int depth(Element method, Map<Element, Set<Element>> calls, Set<Element> open) {
        boolean anew = open.add(method);
        CHECK.holds(method + " does not call itself", anew);
        if (!anew) {
            return MOST_DEEP;
        }
        int deepest = 0;
        for (Element called : calls.getOrDefault(method, Set.of())) {
            deepest = Math.max(deepest, depth(called, calls, open));
        }
        open.remove(method);
        return deepest + 1;
    }

    /** Gathers which method calls which, and looks at what stands in them. */
    private static final class Reader extends TreePathScanner<Void, Void> {
        private final Trees trees;
        private final Map<Element, Set<Element>> calls = new LinkedHashMap<>();
        private Element inside = null;

        Reader(Trees trees) {
            this.trees = trees;
        }

        @Override
        public Void visitMethod(MethodTree method, Void nothing) {
            Element outside = inside;
            inside = trees.getElement(getCurrentPath());
            calls.put(inside, new LinkedHashSet<>());
            super.visitMethod(method, nothing);
            inside = outside;
            return null;
        }

        @Override
        public Void visitMethodInvocation(MethodInvocationTree call, Void nothing) {
            meet(trees.getElement(getCurrentPath()));
            return super.visitMethodInvocation(call, nothing);
        }

        @Override
        public Void visitNewClass(NewClassTree made, Void nothing) {
            meet(trees.getElement(getCurrentPath()));
            return super.visitNewClass(made, nothing);
        }

        private void meet(Element called) {
            CHECK.holds("what is called in " + inside + " is known", called != null);
            if (inside == null || called == null) {
                return;
            }
            calls.get(inside).add(called);
            if (inside.getKind() == ElementKind.CONSTRUCTOR && called.getKind() == ElementKind.METHOD) {
                Set<Modifier> kind = called.getModifiers();
                boolean fixed = kind.contains(Modifier.STATIC) || kind.contains(Modifier.PRIVATE)
                        || called.getEnclosingElement().getModifiers().contains(Modifier.FINAL);
                CHECK.holds(called + ", called in a constructor, can't be overridden", fixed);
            }
        }

        @Override
        public Void visitThrow(ThrowTree thrown, Void nothing) {
            CHECK.holds("no throw in a constructor", inside != null && inside.getKind() == ElementKind.METHOD);
            return super.visitThrow(thrown, nothing);
        }

        @Override
        public Void visitTypeCast(TypeCastTree cast, Void nothing) {
            CHECK.holds(cast + " is a cast of numbers", typeOf(cast.getType()).getKind().isPrimitive());
            return super.visitTypeCast(cast, nothing);
        }

        @Override
        public Void visitBinary(BinaryTree both, Void nothing) {
            if (both.getKind() == Tree.Kind.PLUS) {
                CHECK.holds(both + " is of numbers", isOfNumbers());
            }
            if (both.getKind() == Tree.Kind.DIVIDE || both.getKind() == Tree.Kind.REMAINDER) {
                CHECK.holds(both + ": its divisor is a constant, or was looked at before",
                        isConstant(both) || List.of("both", "(double)contents")
                                .contains(both.getRightOperand().toString()));
            }
            return super.visitBinary(both, nothing);
        }

        @Override
        public Void visitCompoundAssignment(CompoundAssignmentTree changed, Void nothing) {
            CHECK.holds(changed + " is of numbers", isOfNumbers());
            CHECK.holds(changed + " does not divide", changed.getKind() != Tree.Kind.DIVIDE_ASSIGNMENT
                    && changed.getKind() != Tree.Kind.REMAINDER_ASSIGNMENT);
            return super.visitCompoundAssignment(changed, nothing);
        }

        @Override
        public Void visitAssignment(AssignmentTree set, Void nothing) {
            Element target = trees.getElement(new TreePath(getCurrentPath(), set.getVariable()));
            CHECK.holds(set + " sets nothing static", target == null
                    || !target.getModifiers().contains(Modifier.STATIC));
            return super.visitAssignment(set, nothing);
        }

        private boolean isOfNumbers() {
            return trees.getTypeMirror(getCurrentPath()).getKind().isPrimitive();
        }

        private boolean isConstant(BinaryTree both) {
            Element divisor = trees.getElement(
                    new TreePath(getCurrentPath(), both.getRightOperand()));
            return divisor instanceof VariableElement && ((VariableElement) divisor).getConstantValue() != null
                    && !((VariableElement) divisor).getConstantValue().equals(0);
        }

        private TypeMirror typeOf(Tree tree) {
            return trees.getTypeMirror(new TreePath(getCurrentPath(), tree));
        }
    }
}
