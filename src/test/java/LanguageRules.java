import com.sun.source.tree.ArrayTypeTree;
import com.sun.source.tree.AssertTree;
import com.sun.source.tree.BinaryTree;
import com.sun.source.tree.BlockTree;
import com.sun.source.tree.ClassTree;
import com.sun.source.tree.CompilationUnitTree;
import com.sun.source.tree.DoWhileLoopTree;
import com.sun.source.tree.ExpressionTree;
import com.sun.source.tree.ForLoopTree;
import com.sun.source.tree.ImportTree;
import com.sun.source.tree.LambdaExpressionTree;
import com.sun.source.tree.MemberReferenceTree;
import com.sun.source.tree.MethodInvocationTree;
import com.sun.source.tree.MethodTree;
import com.sun.source.tree.NewClassTree;
import com.sun.source.tree.SynchronizedTree;
import com.sun.source.tree.ThrowTree;
import com.sun.source.tree.Tree;
import com.sun.source.tree.TryTree;
import com.sun.source.tree.TypeCastTree;
import com.sun.source.tree.VariableTree;
import com.sun.source.tree.WhileLoopTree;
import com.sun.source.util.JavacTask;
import com.sun.source.util.TreePath;
import com.sun.source.util.TreePathScanner;
import com.sun.source.util.Trees;
import java.io.IOException;
import java.net.URI;
import java.util.ArrayList;
import java.util.HashSet;
import java.util.List;
import java.util.Map;
import java.util.Set;
import java.util.TreeMap;
import java.util.TreeSet;
import javax.lang.model.element.Element;
import javax.lang.model.element.ElementKind;
import javax.lang.model.element.ExecutableElement;
import javax.lang.model.element.Modifier;
import javax.lang.model.element.TypeElement;
import javax.lang.model.element.VariableElement;
import javax.lang.model.type.ArrayType;
import javax.lang.model.type.DeclaredType;
import javax.lang.model.type.TypeKind;
import javax.lang.model.type.TypeMirror;
import javax.tools.Diagnostic;
import javax.tools.DiagnosticCollector;
import javax.tools.JavaFileObject;
import javax.tools.SimpleJavaFileObject;
import javax.tools.ToolProvider;

/**
 * What a program's text has against LANGUAGE.md, as far as it can be seen in
 * the text. Rule 7, the bounds of loops and what a run makes can't be.
 */
final class LanguageRules extends TreePathScanner<Void, Void> {
    private static final int MOST_PARAMETERS = 7;
    private static final int MOST_LINES = 60;
    private static final int MOST_CLASSES = 12;
    private static final int MOST_FIELDS = 20;
    private static final int MOST_CALLS_DEEP = 8;

    private static final Set<String> LISTS = Set.of("java.util.ArrayList", "java.util.List");
    private static final Set<String> NUMBER_FUNCTIONS = Set.of("java.lang.Math", "java.lang.Integer", "java.lang.Long");
    private static final Set<String> IMPORTS = Set.of("java.util.Arrays", "java.util.ArrayList", "java.util.List", "java.util.Iterator");
    private static final Map<String, Set<String>> LIBRARY = Map.of(
        "java.lang.String", Set.of("length", "charAt", "isEmpty", "equals", "indexOf", "substring", "toCharArray"),
        "java.lang.StringBuilder", Set.of("append", "charAt", "setCharAt", "setLength", "deleteCharAt", "reverse", "length", "toString"),
        "java.lang.AbstractStringBuilder", Set.of("charAt", "setCharAt", "setLength", "length"),
        "java.util.ArrayList", Set.of("add", "get", "set", "remove", "size", "isEmpty", "clear"),
        "java.util.List", Set.of("add", "get", "set", "remove", "size", "isEmpty", "clear", "of"),
        "java.lang.System", Set.of("arraycopy"),
        "java.util.Arrays", Set.of("copyOf", "copyOfRange", "fill"));

    private static final class Text extends SimpleJavaFileObject {
        private final String text;

        Text(String name, String text) {
            super(URI.create("string:///" + name + ".java"), Kind.SOURCE);
            this.text = text;
        }

        @Override
        public CharSequence getCharContent(boolean ignoreEncodingErrors) {
            return text;
        }
    }

    private final CompilationUnitTree unit;
    private final Trees trees;
    private final List<String> found = new ArrayList<>();
    private final Set<String> faceNames = new HashSet<>();
    private final Map<String, Set<String>> calls = new TreeMap<>();
    private int classes = 0;

    private LanguageRules(CompilationUnitTree unit, Trees trees) {
        this.unit = unit;
        this.trees = trees;
    }

    /** Each begins with the number of its rule. */
    static List<String> against(String name, String text) {
        DiagnosticCollector<JavaFileObject> said = new DiagnosticCollector<>();
        JavacTask task = (JavacTask) ToolProvider.getSystemJavaCompiler()
                .getTask(null, null, said, List.of("-proc:none", "--release", "17"), null, List.of(new Text(name, text)));
        try {
            CompilationUnitTree unit = task.parse().iterator().next();
            task.analyze();
            for (Diagnostic<?> one : said.getDiagnostics()) {
                if (one.getKind() == Diagnostic.Kind.ERROR) {
                    throw new IllegalStateException(text + " does not compile: " + one);
                }
            }
            LanguageRules rules = new LanguageRules(unit, Trees.instance(task));
            rules.look(text);
            return rules.found;
        } catch (IOException thrown) {
            throw new IllegalStateException(thrown);
        }
    }

    private void look(String text) {
        for (Tree type : unit.getTypeDecls()) {
            for (Tree member : ((ClassTree) type).getMembers()) {
                if (member instanceof MethodTree && ((MethodTree) member).getModifiers().getFlags().contains(Modifier.PUBLIC)) {
                    faceNames.add(((MethodTree) member).getName().toString());
                }
            }
        }
        faceNames.remove("<init>");
        scan(unit, null);
        if (unit.getTypeDecls().size() != 1 || unit.getPackage() != null) {
            found.add("1: one public class, no package");
        }
        if (classes > MOST_CLASSES) {
            found.add("11: " + classes + " classes");
        }
        if (text.chars().anyMatch(c -> c < 1 || c > 127)) {
            found.add("4: signs beyond 127");
        }
        for (String method : new TreeSet<>(calls.keySet())) {
            int depth = depthOf(method, new HashSet<>());
            if (depth > MOST_CALLS_DEEP) {
                found.add((depth > 1000 ? "8: calls itself: " : "11: calls " + depth + " deep: ") + method);
            }
        }
    }

    private int depthOf(String method, Set<String> open) {
        if (!open.add(method)) {
            return 1_000_000;
        }
        int deepest = 0;
        for (String called : calls.getOrDefault(method, Set.of())) {
            deepest = Math.max(deepest, depthOf(called, open));
        }
        open.remove(method);
        return deepest + 1;
    }

    private void against(int rule, String what, Tree tree) {
        long place = trees.getSourcePositions().getStartPosition(unit, tree);
        found.add(rule + ": " + what + " in line " + unit.getLineMap().getLineNumber(Math.max(0, place)));
    }

    private Element elementOf(Tree tree) {
        return trees.getElement(new TreePath(getCurrentPath(), tree));
    }

    private TypeMirror typeOf(Tree tree) {
        return trees.getTypeMirror(new TreePath(getCurrentPath(), tree));
    }

    private static boolean isOwn(Element element) {
        Element outer = element;
        while (outer.getEnclosingElement() != null && outer.getEnclosingElement().getKind() != ElementKind.PACKAGE) {
            outer = outer.getEnclosingElement();
        }
        return outer.getEnclosingElement() == null || outer.getEnclosingElement().getSimpleName().length() == 0;
    }

    private static boolean isString(TypeMirror type) {
        return type != null && type.toString().equals("java.lang.String");
    }

    @Override
    public Void visitImport(ImportTree tree, Void nothing) {
        if (tree.isStatic() || !IMPORTS.contains(tree.getQualifiedIdentifier().toString())) {
            against(4, "import", tree);
        }
        return super.visitImport(tree, nothing);
    }

    @Override
    public Void visitClass(ClassTree tree, Void nothing) {
        classes++;
        Tree parent = getCurrentPath().getParentPath().getLeaf();
        Set<Modifier> flags = tree.getModifiers().getFlags();
        boolean isInside = parent instanceof ClassTree;
        if (!isInside && !(parent instanceof CompilationUnitTree)) {
            against(2, "local or anonymous class", tree);
        }
        if (isInside && tree.getKind() == Tree.Kind.CLASS && !flags.contains(Modifier.STATIC)) {
            against(2, "inner class that isn't static", tree);
        }
        if (isInside && (flags.contains(Modifier.PUBLIC) || flags.contains(Modifier.PROTECTED))) {
            against(1, "class inside that is open", tree);
        }
        if (parent instanceof CompilationUnitTree && !flags.containsAll(Set.of(Modifier.PUBLIC, Modifier.FINAL))) {
            against(1, "class that is not public and final", tree);
        }
        long fields = tree.getMembers().stream().filter(m -> m instanceof VariableTree
                && !((VariableTree) m).getModifiers().getFlags().contains(Modifier.STATIC)).count();
        if (fields > MOST_FIELDS) {
            against(11, fields + " fields", tree);
        }
        return super.visitClass(tree, nothing);
    }

    @Override
    public Void visitMethod(MethodTree tree, Void nothing) {
        Set<Modifier> flags = tree.getModifiers().getFlags();
        boolean isOfTheFace = getCurrentPath().getParentPath().getParentPath().getLeaf() instanceof CompilationUnitTree;
        if (isOfTheFace && !flags.contains(Modifier.PUBLIC) && !flags.contains(Modifier.PRIVATE)) {
            against(1, "method that is neither public nor private", tree);
        }
        if (flags.contains(Modifier.PRIVATE) && faceNames.contains(tree.getName().toString())) {
            against(1, "private method with the name of a public one", tree);
        }
        if (Set.of("equals", "hashCode", "toString").contains(tree.getName().toString())) {
            against(6, "own " + tree.getName(), tree);
        }
        if (tree.getParameters().size() > MOST_PARAMETERS) {
            against(11, tree.getParameters().size() + " parameters", tree);
        }
        long end = trees.getSourcePositions().getEndPosition(unit, tree);
        long start = trees.getSourcePositions().getStartPosition(unit, tree);
        long lines = end < 0 ? 0 : unit.getLineMap().getLineNumber(end) - unit.getLineMap().getLineNumber(start) + 1;
        if (lines > MOST_LINES) {
            against(11, "method of " + lines + " lines", tree);
        }
        return super.visitMethod(tree, nothing);
    }

    @Override
    public Void visitVariable(VariableTree tree, Void nothing) {
        VariableElement variable = (VariableElement) trees.getElement(getCurrentPath());
        TypeMirror type = variable.asType();
        if (!isAllowed(type)) {
            against(3, "type " + type, tree);
        }
        boolean isField = variable.getKind() == ElementKind.FIELD;
        boolean isStatic = variable.getModifiers().contains(Modifier.STATIC);
        if (isField && isStatic && (!variable.getModifiers().contains(Modifier.FINAL) || !isConstant(type))) {
            against(5, "static field " + variable, tree);
        }
        boolean isOfTheFace = getCurrentPath().getParentPath().getParentPath().getLeaf() instanceof CompilationUnitTree;
        if (isField && isOfTheFace && !variable.getModifiers().contains(Modifier.PRIVATE)) {
            against(1, "field that is not private", tree);
        }
        return super.visitVariable(tree, nothing);
    }

    private static boolean isAllowed(TypeMirror type) {
        if (type instanceof ArrayType) {
            TypeMirror part = ((ArrayType) type).getComponentType();
            if (part instanceof ArrayType) {
                return ((ArrayType) part).getComponentType().getKind().isPrimitive();
            }
            return part.getKind().isPrimitive() || part instanceof DeclaredType && isOwn(((DeclaredType) part).asElement());
        }
        if (type.getKind().isPrimitive() || type.getKind() == TypeKind.TYPEVAR) {
            return true;
        }
        if (!(type instanceof DeclaredType)) {
            return false;
        }
        TypeElement element = (TypeElement) ((DeclaredType) type).asElement();
        String name = element.getQualifiedName().toString();
        boolean isListed = name.equals("java.lang.String") || name.equals("java.lang.StringBuilder") || LISTS.contains(name);
        return isOwn(element) || isListed;
    }

    /** Of arrays only those of numbers, written out; the text tells nothing of whether they are changed. */
    private static boolean isConstant(TypeMirror type) {
        TypeMirror part = type instanceof ArrayType ? ((ArrayType) type).getComponentType() : type;
        Set<TypeKind> kinds = type instanceof ArrayType
                ? Set.of(TypeKind.INT, TypeKind.LONG, TypeKind.CHAR, TypeKind.BYTE)
                : Set.of(TypeKind.INT, TypeKind.LONG, TypeKind.CHAR, TypeKind.BOOLEAN);
        return kinds.contains(part.getKind()) || isString(type)
                || part instanceof DeclaredType && ((DeclaredType) part).asElement().getKind() == ElementKind.ENUM;
    }

    @Override
    public Void visitMethodInvocation(MethodInvocationTree tree, Void nothing) {
        Element called = elementOf(tree.getMethodSelect());
        if (called instanceof ExecutableElement) {
            if (isOwn(called)) {
                addCall(called);
            } else if (!isInLibrary((ExecutableElement) called)) {
                against(4, "call of " + called.getEnclosingElement() + "." + called, tree);
            }
        }
        return super.visitMethodInvocation(tree, nothing);
    }

    private void addCall(Element called) {
        TreePath path = getCurrentPath();
        while (path != null && !(path.getLeaf() instanceof MethodTree)) {
            path = path.getParentPath();
        }
        if (path != null) {
            calls.computeIfAbsent(nameOf(trees.getElement(path)), name -> new TreeSet<>()).add(nameOf(called));
        }
    }

    private static String nameOf(Element method) {
        return method.getEnclosingElement() + "." + method;
    }

    private static boolean isInLibrary(ExecutableElement called) {
        String owner = called.getEnclosingElement().toString();
        String name = called.getSimpleName().toString();
        if (name.equals("<init>") && owner.equals("java.lang.Object") || name.equals("clone") && owner.equals("Array")) {
            return true;
        }
        boolean isOfNumbers = !called.getParameters().isEmpty()
                && called.getParameters().stream().allMatch(p -> Set.of(TypeKind.INT, TypeKind.LONG).contains(p.asType().getKind()));
        if (NUMBER_FUNCTIONS.contains(owner)) {
            return called.getModifiers().contains(Modifier.STATIC) && isOfNumbers && !name.endsWith("Exact") && !isString(called.getReturnType());
        }
        if (owner.equals("java.lang.String") && name.equals("indexOf")) {
            return isOfNumbers && called.getParameters().size() == 1;
        }
        String bare = owner.replaceAll("<.*", "");
        return LIBRARY.containsKey(bare) && LIBRARY.get(bare).contains(name);
    }

    @Override
    public Void visitNewClass(NewClassTree tree, Void nothing) {
        Element made = elementOf(tree.getIdentifier());
        String name = made.toString();
        if (!isOwn(made) && !Set.of("java.lang.String", "java.lang.StringBuilder", "java.util.ArrayList").contains(name)) {
            against(4, "new " + name, tree);
        }
        Element constructor = trees.getElement(getCurrentPath());
        if (isOwn(made) && constructor != null) {
            addCall(constructor);
        }
        return super.visitNewClass(tree, nothing);
    }

    @Override
    public Void visitBinary(BinaryTree tree, Void nothing) {
        boolean hasString = isString(typeOf(tree.getLeftOperand())) || isString(typeOf(tree.getRightOperand()));
        if (hasString && tree.getKind() == Tree.Kind.PLUS) {
            against(10, "texts joined by +", tree);
        }
        boolean isNull = tree.getLeftOperand().getKind() == Tree.Kind.NULL_LITERAL || tree.getRightOperand().getKind() == Tree.Kind.NULL_LITERAL;
        if (hasString && !isNull && (tree.getKind() == Tree.Kind.EQUAL_TO || tree.getKind() == Tree.Kind.NOT_EQUAL_TO)) {
            against(6, "== of texts", tree);
        }
        return super.visitBinary(tree, nothing);
    }

    @Override
    public Void visitBlock(BlockTree tree, Void nothing) {
        if (tree.isStatic()) {
            against(5, "static initialiser", tree);
        }
        return super.visitBlock(tree, nothing);
    }

    @Override
    public Void visitLambdaExpression(LambdaExpressionTree tree, Void nothing) {
        against(2, "lambda", tree);
        return super.visitLambdaExpression(tree, nothing);
    }

    @Override
    public Void visitMemberReference(MemberReferenceTree tree, Void nothing) {
        against(2, "method reference", tree);
        return super.visitMemberReference(tree, nothing);
    }

    @Override
    public Void visitThrow(ThrowTree tree, Void nothing) {
        against(6, "throw", tree);
        return super.visitThrow(tree, nothing);
    }

    @Override
    public Void visitTry(TryTree tree, Void nothing) {
        against(6, "try", tree);
        return super.visitTry(tree, nothing);
    }

    @Override
    public Void visitSynchronized(SynchronizedTree tree, Void nothing) {
        against(6, "synchronized", tree);
        return super.visitSynchronized(tree, nothing);
    }

    @Override
    public Void visitAssert(AssertTree tree, Void nothing) {
        against(6, "assert", tree);
        return super.visitAssert(tree, nothing);
    }

    /** A cast of an object is allowed behind its test; the program needs none. */
    @Override
    public Void visitTypeCast(TypeCastTree tree, Void nothing) {
        if (!typeOf(tree.getType()).getKind().isPrimitive() || tree.getType() instanceof ArrayTypeTree) {
            against(6, "cast of an object", tree);
        }
        return super.visitTypeCast(tree, nothing);
    }

    @Override
    public Void visitForLoop(ForLoopTree tree, Void nothing) {
        endOf(tree.getCondition(), tree);
        return super.visitForLoop(tree, nothing);
    }

    @Override
    public Void visitWhileLoop(WhileLoopTree tree, Void nothing) {
        endOf(tree.getCondition(), tree);
        return super.visitWhileLoop(tree, nothing);
    }

    @Override
    public Void visitDoWhileLoop(DoWhileLoopTree tree, Void nothing) {
        endOf(tree.getCondition(), tree);
        return super.visitDoWhileLoop(tree, nothing);
    }

    private void endOf(ExpressionTree condition, Tree loop) {
        String text = condition == null ? "true" : condition.toString().replaceAll("[()]", "");
        if (text.equals("true")) {
            against(9, "loop without an end", loop);
        }
    }
}
