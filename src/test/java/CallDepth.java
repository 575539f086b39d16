import com.sun.source.tree.ClassTree;
import com.sun.source.tree.CompilationUnitTree;
import com.sun.source.tree.MethodInvocationTree;
import com.sun.source.tree.MethodTree;
import com.sun.source.tree.NewClassTree;
import com.sun.source.util.TreePath;
import com.sun.source.util.TreePathScanner;
import com.sun.source.util.Trees;
import java.util.HashMap;
import java.util.HashSet;
import java.util.LinkedHashSet;
import java.util.Map;
import java.util.Set;
import javax.lang.model.element.Element;
import javax.lang.model.element.ElementKind;

/** How deep the calls of a source go, the library's with them; a call of one that stands open already counts as one. */
final class CallDepth extends TreePathScanner<Void, Void> {
    private final Trees trees;
    private final Map<Element, Set<Element>> callees = new HashMap<>();
    private Element caller;

    private CallDepth(Trees trees) {
        this.trees = trees;
    }

    static int of(Trees trees, CompilationUnitTree unit) {
        CallDepth depth = new CallDepth(trees);
        depth.scan(new TreePath(unit), null);
        int deepest = 0;
        for (Element each : depth.callees.keySet()) {
            deepest = Math.max(deepest, depth.below(each, new HashSet<>()));
        }
        return deepest;
    }

    private int below(Element element, Set<Element> open) {
        if (!open.add(element)) {
            return 1;
        }
        int deepest = 0;
        for (Element callee : callees.getOrDefault(element, Set.of())) {
            deepest = Math.max(deepest, below(callee, open));
        }
        open.remove(element);
        return deepest + 1;
    }

    /** What initialisers of fields call, counts for the class, and its constructors call that. */
    @Override
    public Void visitClass(ClassTree tree, Void nothing) {
        Element outer = caller;
        caller = trees.getElement(getCurrentPath());
        super.visitClass(tree, nothing);
        caller = outer;
        return null;
    }

    @Override
    public Void visitMethod(MethodTree tree, Void nothing) {
        Element outer = caller;
        caller = trees.getElement(getCurrentPath());
        super.visitMethod(tree, nothing);
        if (caller.getKind() == ElementKind.CONSTRUCTOR) {
            callees.computeIfAbsent(caller, key -> new LinkedHashSet<>()).addAll(callees.getOrDefault(outer, Set.of()));
        }
        caller = outer;
        return null;
    }

    @Override
    public Void visitMethodInvocation(MethodInvocationTree tree, Void nothing) {
        calls(trees.getElement(getCurrentPath()));
        return super.visitMethodInvocation(tree, nothing);
    }

    @Override
    public Void visitNewClass(NewClassTree tree, Void nothing) {
        calls(trees.getElement(getCurrentPath()));
        return super.visitNewClass(tree, nothing);
    }

    private void calls(Element callee) {
        if (caller != null && callee != null) {
            callees.computeIfAbsent(caller, key -> new LinkedHashSet<>()).add(callee);
        }
    }
}
