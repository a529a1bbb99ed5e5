import com.sun.source.tree.BinaryTree;
import com.sun.source.tree.ClassTree;
import com.sun.source.tree.CompilationUnitTree;
import com.sun.source.tree.CompoundAssignmentTree;
import com.sun.source.tree.DoWhileLoopTree;
import com.sun.source.tree.ExpressionTree;
import com.sun.source.tree.ForLoopTree;
import com.sun.source.tree.ImportTree;
import com.sun.source.tree.LambdaExpressionTree;
import com.sun.source.tree.LiteralTree;
import com.sun.source.tree.MemberReferenceTree;
import com.sun.source.tree.MethodInvocationTree;
import com.sun.source.tree.MethodTree;
import com.sun.source.tree.NewArrayTree;
import com.sun.source.tree.NewClassTree;
import com.sun.source.tree.ThrowTree;
import com.sun.source.tree.Tree;
import com.sun.source.tree.TryTree;
import com.sun.source.tree.TypeCastTree;
import com.sun.source.tree.VariableTree;
import com.sun.source.tree.WhileLoopTree;
import com.sun.source.util.JavacTask;
import com.sun.source.util.TreePath;
import com.sun.source.util.TreePathScanner;
import com.sun.source.util.Trees;
import java.io.IOException;
import java.net.URI;
import java.util.ArrayList;
import java.util.Arrays;
import java.util.LinkedHashMap;
import java.util.LinkedHashSet;
import java.util.List;
import java.util.Map;
import java.util.Set;
import java.util.TreeSet;
import javax.lang.model.element.Element;
import javax.lang.model.element.ElementKind;
import javax.lang.model.element.ExecutableElement;
import javax.lang.model.element.Modifier;
import javax.lang.model.element.VariableElement;
import javax.lang.model.type.ArrayType;
import javax.lang.model.type.TypeKind;
import javax.lang.model.type.TypeMirror;
import javax.tools.JavaFileObject;
import javax.tools.SimpleJavaFileObject;
import javax.tools.ToolProvider;

/**
 * Reads a program as the compiler does and tells where it leaves LANGUAGE.md. It is stricter than that where the
 * class needs no more: no try, no recursion, no doubles, no lists, one library exception.
 */
final class Language extends TreePathScanner<Void, Void> {
    private static final int MOST_LINES = 60;
    private static final int MOST_PARAMETERS = 7;
    private static final int MOST_CLASSES = 12;
    private static final int MOST_FIELDS = 20;
    private static final int DEEPEST = 8;
    private static final Set<String> LIBRARY = new TreeSet<>(Arrays.asList(
        "String.length()", "String.charAt(int)", "StringBuilder.length()", "StringBuilder.charAt(int)", "StringBuilder.setLength(int)",
        "StringBuilder.append(char)", "StringBuilder.append(java.lang.String)", "StringBuilder.append(int)", "StringBuilder.StringBuilder()",
        "Integer.bitCount(int)", "System.arraycopy(java.lang.Object,int,java.lang.Object,int,int)",
        "NoSuchElementException.NoSuchElementException()", "NoSuchElementException.NoSuchElementException(java.lang.String)", "Object.Object()"));

    private final List<String> complaints = new ArrayList<>();
    private final Map<Element, Set<Element>> calls = new LinkedHashMap<>();
    private final CompilationUnitTree unit;
    private final Trees trees;
    private int classes;

    private Language(CompilationUnitTree unit, Trees trees) {
        this.unit = unit;
        this.trees = trees;
    }

    static List<String> complaintsAbout(String source) throws IOException {
        JavaFileObject file = new SimpleJavaFileObject(URI.create("string:///LateRules.java"), JavaFileObject.Kind.SOURCE) {
            @Override
            public CharSequence getCharContent(boolean ignoreEncodingErrors) {
                return source;
            }
        };
        List<String> options = Arrays.asList("-proc:none", "--release", "17");
        JavacTask task = (JavacTask) ToolProvider.getSystemJavaCompiler().getTask(null, null, found -> { }, options, null, List.of(file));
        CompilationUnitTree unit = task.parse().iterator().next();
        task.analyze();
        Language language = new Language(unit, Trees.instance(task));
        language.scan(unit, null);
        language.lookAtDepth();
        if (language.classes > MOST_CLASSES) {
            language.complaints.add("11: " + language.classes + " classes");
        }
        if (source.chars().anyMatch(sign -> sign > 127)) {
            language.complaints.add("4: a sign above 127");
        }
        return language.complaints;
    }

    private void complain(String what, Tree where) {
        long place = trees.getSourcePositions().getStartPosition(unit, where);
        complaints.add(what + " (line " + unit.getLineMap().getLineNumber(place) + ")");
    }

    // ---- classes, fields, methods

    @Override
    public Void visitImport(ImportTree node, Void p) {
        if (!node.getQualifiedIdentifier().toString().equals("java.util.NoSuchElementException")) {
            complain("4: import", node);
        }
        return super.visitImport(node, p);
    }

    @Override
    public Void visitClass(ClassTree node, Void p) {
        classes++;
        Element element = trees.getElement(getCurrentPath());
        boolean inside = element.getEnclosingElement().getKind().isClass();
        boolean top = element.getEnclosingElement().getKind() == ElementKind.PACKAGE;
        if (!top && !inside) {
            complain("2: a class within a method", node);
        }
        Set<Modifier> modifiers = element.getModifiers();
        if (inside && (!modifiers.contains(Modifier.STATIC) || modifiers.contains(Modifier.PUBLIC) || modifiers.contains(Modifier.PROTECTED))) {
            complain("1: a class inside that others see, or that is not static", node);
        }
        int fields = 0;
        for (Tree member : node.getMembers()) {
            if (member.getKind() == Tree.Kind.BLOCK) {
                complain("5: a block that is no method", member);
            }
            if (member instanceof VariableTree && !((VariableTree) member).getModifiers().getFlags().contains(Modifier.STATIC)) {
                fields++;
            }
        }
        if (fields > MOST_FIELDS) {
            complain("11: " + fields + " fields", node);
        }
        return super.visitClass(node, p);
    }

    @Override
    public Void visitMethod(MethodTree node, Void p) {
        calls.putIfAbsent(trees.getElement(getCurrentPath()), new LinkedHashSet<>());
        if (node.getParameters().size() > MOST_PARAMETERS) {
            complain("11: " + node.getParameters().size() + " parameters", node);
        }
        long end = trees.getSourcePositions().getEndPosition(unit, node);
        long start = trees.getSourcePositions().getStartPosition(unit, node);
        if (end >= 0 && unit.getLineMap().getLineNumber(end) - unit.getLineMap().getLineNumber(start) + 1 > MOST_LINES) {
            complain("11: a method of more than " + MOST_LINES + " lines", node);
        }
        return super.visitMethod(node, p);
    }

    @Override
    public Void visitVariable(VariableTree node, Void p) {
        Element element = trees.getElement(getCurrentPath());
        if (!isTypeOfOurs(element.asType())) {
            complain("3: type " + element.asType(), node);
        }
        if (element.getModifiers().contains(Modifier.STATIC) && ((VariableElement) element).getConstantValue() == null) {
            complain("5: a static field that is no constant", node);
        }
        return super.visitVariable(node, p);
    }

    private boolean isTypeOfOurs(TypeMirror type) {
        switch (type.getKind()) {
            case INT: case LONG: case CHAR: case BYTE: case SHORT: case BOOLEAN:
                return true;
            case ARRAY:
                TypeMirror element = ((ArrayType) type).getComponentType();
                return element.getKind() != TypeKind.ARRAY && !isText(element) && isTypeOfOurs(element);
            case DECLARED:
                return isText(type) || type.toString().equals("java.lang.StringBuilder") || type.toString().startsWith("LateRules");
            default:
                return false;
        }
    }

    private static boolean isText(TypeMirror type) {
        return type != null && type.toString().equals("java.lang.String");
    }

    // ---- what is left out

    @Override
    public Void visitLambdaExpression(LambdaExpressionTree node, Void p) {
        complain("2: lambda", node);
        return super.visitLambdaExpression(node, p);
    }

    @Override
    public Void visitMemberReference(MemberReferenceTree node, Void p) {
        complain("2: method reference", node);
        return super.visitMemberReference(node, p);
    }

    @Override
    public Void visitTry(TryTree node, Void p) {
        complain("6: try", node);
        return super.visitTry(node, p);
    }

    @Override
    public Void visitThrow(ThrowTree node, Void p) {
        Element within = methodOf();
        boolean written = node.getExpression() instanceof NewClassTree;
        if (written) {
            for (ExpressionTree argument : ((NewClassTree) node.getExpression()).getArguments()) {
                written &= argument instanceof LiteralTree;
            }
        }
        if (!written || within == null || within.getKind() == ElementKind.CONSTRUCTOR) {
            complain("6: throw", node);
        }
        return super.visitThrow(node, p);
    }

    @Override
    public Void visitTypeCast(TypeCastTree node, Void p) {
        if (!trees.getTypeMirror(getCurrentPath()).getKind().isPrimitive()) {
            complain("6: a cast of an object", node);
        }
        return super.visitTypeCast(node, p);
    }

    @Override
    public Void visitBinary(BinaryTree node, Void p) {
        TypeMirror left = typeOf(node.getLeftOperand());
        TypeMirror right = typeOf(node.getRightOperand());
        switch (node.getKind()) {
            case DIVIDE: case REMAINDER:
                if (!isWrittenNumber(node.getRightOperand())) {
                    complain("7: a divisor that is no written number", node);
                }
                break;
            case PLUS:
                if (isText(left) || isText(right)) {
                    complain("10: texts joined by +", node);
                }
                break;
            case EQUAL_TO: case NOT_EQUAL_TO:
                if (isText(left) && isText(right)) {
                    complain("6: == between texts", node);
                }
                break;
            default:
        }
        return super.visitBinary(node, p);
    }

    @Override
    public Void visitCompoundAssignment(CompoundAssignmentTree node, Void p) {
        boolean divides = node.getKind() == Tree.Kind.DIVIDE_ASSIGNMENT || node.getKind() == Tree.Kind.REMAINDER_ASSIGNMENT;
        if (divides && !isWrittenNumber(node.getExpression())) {
            complain("7: a divisor that is no written number", node);
        }
        if (isText(typeOf(node.getVariable()))) {
            complain("10: texts joined by +=", node);
        }
        return super.visitCompoundAssignment(node, p);
    }

    @Override
    public Void visitNewArray(NewArrayTree node, Void p) {
        for (ExpressionTree dimension : node.getDimensions()) {
            if (!isConstant(dimension)) {
                complain("7: a length that is no constant", node);
            }
        }
        return super.visitNewArray(node, p);
    }

    private TypeMirror typeOf(ExpressionTree part) {
        return trees.getTypeMirror(new TreePath(getCurrentPath(), part));
    }

    private static boolean isWrittenNumber(ExpressionTree part) {
        return part instanceof LiteralTree && !String.valueOf(((LiteralTree) part).getValue()).equals("0");
    }

    private boolean isConstant(ExpressionTree part) {
        if (part instanceof LiteralTree) {
            return true;
        }
        if (part instanceof BinaryTree) {
            return isConstant(((BinaryTree) part).getLeftOperand()) && isConstant(((BinaryTree) part).getRightOperand());
        }
        Element element = trees.getElement(new TreePath(getCurrentPath(), part));
        return element instanceof VariableElement && ((VariableElement) element).getConstantValue() != null;
    }

    // ---- loops

    @Override
    public Void visitForLoop(ForLoopTree node, Void p) {
        lookAtEnd(node.getCondition(), node);
        return super.visitForLoop(node, p);
    }

    @Override
    public Void visitWhileLoop(WhileLoopTree node, Void p) {
        lookAtEnd(node.getCondition(), node);
        return super.visitWhileLoop(node, p);
    }

    @Override
    public Void visitDoWhileLoop(DoWhileLoopTree node, Void p) {
        lookAtEnd(node.getCondition(), node);
        return super.visitDoWhileLoop(node, p);
    }

    /** Somewhere in the condition a number has to be compared with another one; that it gets there is for the reader to see. */
    private void lookAtEnd(Tree condition, Tree loop) {
        if (condition == null || !condition.toString().matches("(?s).*(<|>|<=|>=) .*")) {
            complain("9: a loop without an end to be seen", loop);
        }
    }

    // ---- calls

    private Element methodOf() {
        TreePath path = getCurrentPath();
        while (path != null && !(path.getLeaf() instanceof MethodTree)) {
            path = path.getParentPath();
        }
        return path == null ? null : trees.getElement(path);
    }

    @Override
    public Void visitMethodInvocation(MethodInvocationTree node, Void p) {
        lookAtCall(trees.getElement(getCurrentPath()), node);
        return super.visitMethodInvocation(node, p);
    }

    @Override
    public Void visitNewClass(NewClassTree node, Void p) {
        lookAtCall(trees.getElement(getCurrentPath()), node);
        return super.visitNewClass(node, p);
    }

    private void lookAtCall(Element called, Tree node) {
        if (!(called instanceof ExecutableElement)) {
            complain("4: a call of what is not known", node);
            return;
        }
        Element owner = called.getEnclosingElement();
        if (owner.toString().startsWith("LateRules")) {
            Element caller = methodOf();
            if (caller != null) {
                calls.computeIfAbsent(caller, c -> new LinkedHashSet<>()).add(called);
            }
            return;
        }
        if (!LIBRARY.contains(nameOf(called))) {
            complain("4: " + nameOf(called), node);
        }
    }

    /** Like String.charAt(int). What a StringBuilder has may stand in a class above it. */
    private static String nameOf(Element called) {
        String owner = called.getEnclosingElement().getSimpleName().toString().replace("AbstractStringBuilder", "StringBuilder");
        String head = called.toString();
        return owner + "." + (called.getKind() == ElementKind.CONSTRUCTOR ? owner + head.substring(head.indexOf('(')) : head);
    }

    private void lookAtDepth() {
        for (Element method : calls.keySet()) {
            if (method.getModifiers().contains(Modifier.PUBLIC)) {
                follow(method, new ArrayList<>());
            }
        }
    }

    private boolean follow(Element method, List<Element> open) {
        if (open.contains(method)) {
            complaints.add("8: " + method + " calls itself");
            return false;
        }
        open.add(method);
        if (open.size() > DEEPEST) {
            complaints.add("11: calls go deeper than " + DEEPEST + ": " + open);
            return false;
        }
        for (Element next : calls.getOrDefault(method, Set.of())) {
            if (!follow(next, open)) {
                return false;
            }
        }
        open.remove(open.size() - 1);
        return true;
    }
}
