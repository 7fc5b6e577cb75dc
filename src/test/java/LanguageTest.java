import com.sun.source.tree.*;
import com.sun.source.util.JavacTask;
import com.sun.source.util.TreePath;
import com.sun.source.util.TreePathScanner;
import com.sun.source.util.Trees;
import java.nio.file.Path;
import java.util.ArrayList;
import java.util.List;
import java.util.Set;
import java.util.TreeMap;
import java.util.TreeSet;
import javax.lang.model.element.Element;
import javax.lang.model.element.ElementKind;
import javax.lang.model.element.ExecutableElement;
import javax.lang.model.element.Modifier;
import javax.lang.model.element.TypeElement;
import javax.lang.model.element.VariableElement;
import javax.lang.model.type.ArrayType;
import javax.lang.model.type.DeclaredType;
import javax.lang.model.type.TypeKind;
import javax.lang.model.type.TypeMirror;
import javax.tools.JavaCompiler;
import javax.tools.StandardJavaFileManager;
import javax.tools.ToolProvider;

/** Rules 1 to 13 of ../shared/LANGUAGE.md, looked up in the class as the compiler reads it. */
public final class LanguageTest {
    private static final Path FILE = Path.of("src/main/java/Derivationdesk.java");
    private static final Set<String> EXCEPTIONS = Set.of("IllegalStateException", "IllegalArgumentException",
        "IndexOutOfBoundsException", "ArithmeticException", "UnsupportedOperationException", "NoSuchElementException",
        "RuntimeException");
    /** What the class uses of what rule 4 allows; a name that is missing here is to be looked up there first. */
    private static final Set<String> LIBRARY = Set.of("Integer.bitCount(int)", "Math.max(int,int)", "Math.min(int,int)",
        "Math.floorDiv(int,int)", "Math.floorMod(int,int)",
        "System.arraycopy(java.lang.Object,int,java.lang.Object,int,int)", "StringBuilder.append(char)",
        "StringBuilder.append(java.lang.String)", "StringBuilder.append(int)", "AbstractStringBuilder.setLength(int)",
        "AbstractStringBuilder.length()", "StringBuilder.toString()");
    private static final int MOST_DEEP = 8;
    private static final int MOST_LINES = 60;

    private static int wrong = 0;
    private static int looked = 0;

    private static void check(int rule, boolean isKept, String what) {
        looked++;
        if (!isKept) {
            wrong++;
            System.out.println("rule " + rule + ": " + what);
        }
    }

    /** What is known of one method or constructor. */
    private static final class Known {
        final String name;
        final boolean isOfFace;
        final TreeSet<String> calls = new TreeSet<>();
        final TreeSet<String> library = new TreeSet<>();
        final TreeSet<String> thrown = new TreeSet<>();
        final TreeSet<String> declared = new TreeSet<>();

        Known(String name, boolean isOfFace) {
            this.name = name;
            this.isOfFace = isOfFace;
        }
    }

    private static final TreeMap<String, Known> METHODS = new TreeMap<>();

    private static final class Look extends TreePathScanner<Void, Void> {
        private final Trees trees;
        private final CompilationUnitTree unit;
        private int classes = 0;
        private Known known;
        private boolean isConstructor;

        Look(Trees trees, CompilationUnitTree unit) {
            this.trees = trees;
            this.unit = unit;
        }

        private Element element() { return trees.getElement(getCurrentPath()); }

        private long line(Tree tree) {
            return unit.getLineMap().getLineNumber(trees.getSourcePositions().getStartPosition(unit, tree));
        }

        private long lastLine(Tree tree) {
            return unit.getLineMap().getLineNumber(trees.getSourcePositions().getEndPosition(unit, tree));
        }

        private String at(Tree tree) { return "line " + line(tree) + ": " + tree; }

        private boolean isOwn(Element e) {
            for (Element one = e; one != null; one = one.getEnclosingElement()) {
                if (one instanceof TypeElement && ((TypeElement) one).getQualifiedName().contentEquals("Derivationdesk")) return true;
            }
            return false;
        }

        private TypeMirror typeOf(Tree tree) { return trees.getTypeMirror(new TreePath(getCurrentPath(), tree)); }

        private boolean isText(Tree tree) {
            TypeMirror type = typeOf(tree);
            return type != null && type.toString().equals("java.lang.String");
        }

        private static String keyOf(ExecutableElement e) {
            return e.getEnclosingElement().getSimpleName() + "." + e;
        }

        // ---- classes and members

        @Override
        public Void visitClass(ClassTree tree, Void none) {
            classes++;
            Element e = element();
            boolean isOuter = e.getEnclosingElement().getKind() == ElementKind.PACKAGE;
            check(2, tree.getKind() == Tree.Kind.CLASS, at(tree.getModifiers()) + " is a class");
            if (isOuter) {
                check(1, e.getModifiers().equals(Set.of(Modifier.PUBLIC, Modifier.FINAL)), "the class is public and final");
            } else {
                check(2, e.getEnclosingElement() instanceof TypeElement, tree.getSimpleName() + " is no local class");
                check(2, e.getModifiers().contains(Modifier.STATIC), tree.getSimpleName() + " is static");
                check(12, e.getModifiers().contains(Modifier.FINAL), tree.getSimpleName() + " is final: nothing overrides its methods");
                check(2, !e.getModifiers().contains(Modifier.PUBLIC) && !e.getModifiers().contains(Modifier.PROTECTED),
                    tree.getSimpleName() + " is private or package-visible");
            }
            int fields = 0;
            for (Tree member : tree.getMembers()) {
                check(5, !(member instanceof BlockTree), "a block stands in " + tree.getSimpleName());
                if (member instanceof VariableTree && !((VariableTree) member).getModifiers().getFlags().contains(Modifier.STATIC)) fields++;
                if (isOuter && member instanceof VariableTree) {
                    check(1, ((VariableTree) member).getModifiers().getFlags().contains(Modifier.PRIVATE), at(member) + " is private");
                }
            }
            check(11, fields <= 20, tree.getSimpleName() + " has " + fields + " fields");
            return super.visitClass(tree, none);
        }

        @Override
        public Void visitVariable(VariableTree tree, Void none) {
            Element e = element();
            check(3, isAllowed(e.asType()), at(tree) + ": its type");
            if (e.getKind() == ElementKind.FIELD && e.getModifiers().contains(Modifier.STATIC)) {
                check(5, e.getModifiers().contains(Modifier.FINAL) && ((VariableElement) e).getConstantValue() != null,
                    at(tree) + " is a constant");
            }
            return super.visitVariable(tree, none);
        }

        private boolean isAllowed(TypeMirror type) {
            if (type.getKind() == TypeKind.ARRAY) {
                TypeMirror of = ((ArrayType) type).getComponentType();
                return of.getKind() != TypeKind.ARRAY && (of.getKind().isPrimitive() || isOwn(((DeclaredType) of).asElement()));
            }
            if (type.getKind() == TypeKind.DECLARED) {
                return Set.of("java.lang.String", "java.lang.StringBuilder").contains(type.toString())
                    || isOwn(((DeclaredType) type).asElement());
            }
            return type.getKind().isPrimitive() || type.getKind() == TypeKind.VOID;
        }

        @Override
        public Void visitMethod(MethodTree tree, Void none) {
            ExecutableElement e = (ExecutableElement) element();
            boolean isOfFace = e.getModifiers().contains(Modifier.PUBLIC);
            Known before = known;
            known = new Known(keyOf(e), isOfFace);
            isConstructor = e.getKind() == ElementKind.CONSTRUCTOR;
            METHODS.put(known.name, known);
            for (ExpressionTree t : tree.getThrows()) known.declared.add(t.toString());
            check(3, isAllowed(e.getReturnType()), known.name + ": its type");
            check(6, !Set.of("equals", "hashCode", "toString").contains(e.getSimpleName().toString()), known.name);
            check(11, tree.getParameters().size() <= 7, known.name + " takes at most seven parameters");
            check(11, lastLine(tree) - line(tree) < MOST_LINES, known.name + " has some sixty lines");
            check(1, isOfFace || e.getModifiers().contains(Modifier.PRIVATE)
                || !e.getEnclosingElement().getSimpleName().contentEquals("Derivationdesk"), known.name + " is private");
            super.visitMethod(tree, none);
            known = before;
            isConstructor = false;
            return null;
        }

        // ---- calls and what is made

        @Override
        public Void visitMethodInvocation(MethodInvocationTree tree, Void none) {
            ExecutableElement e = (ExecutableElement) element();
            if (isOwn(e)) {
                if (known != null) known.calls.add(keyOf(e));
            } else if (!e.getSimpleName().contentEquals("<init>")) {
                check(4, LIBRARY.contains(keyOf(e)), at(tree) + ": " + keyOf(e));
                if (known != null) known.library.add(keyOf(e));
                if (e.getSimpleName().toString().startsWith("floor")) checkDivisor(tree, tree.getArguments().get(1));
            }
            return super.visitMethodInvocation(tree, none);
        }

        @Override
        public Void visitNewClass(NewClassTree tree, Void none) {
            ExecutableElement e = (ExecutableElement) element();
            boolean isThrown = getCurrentPath().getParentPath().getLeaf() instanceof ThrowTree;
            check(2, tree.getClassBody() == null, at(tree) + " has a body");
            if (!isThrown) {
                check(12, known == null || isConstructor, at(tree) + " is made in a constructor");
                check(4, isOwn(e) || keyOf(e).equals("StringBuilder.StringBuilder()"), at(tree));
                if (isOwn(e) && known != null) known.calls.add(keyOf(e));
            }
            return super.visitNewClass(tree, none);
        }

        @Override
        public Void visitNewArray(NewArrayTree tree, Void none) {
            check(12, known == null || isConstructor, at(tree) + " is made in a constructor");
            for (ExpressionTree length : tree.getDimensions()) {
                for (String name : variablesIn(length)) check(7, name.equals("width"), at(tree) + ": its length");
            }
            return super.visitNewArray(tree, none);
        }

        @Override
        public Void visitThrow(ThrowTree tree, Void none) {
            check(6, !isConstructor, at(tree) + " stands in a constructor");
            boolean isNew = tree.getExpression() instanceof NewClassTree;
            check(6, isNew, at(tree));
            if (isNew) {
                NewClassTree made = (NewClassTree) tree.getExpression();
                String name = made.getIdentifier().toString();
                check(6, EXCEPTIONS.contains(name), at(tree));
                for (ExpressionTree a : made.getArguments()) check(6, a.getKind() == Tree.Kind.STRING_LITERAL, at(tree) + ": a written text");
                if (known != null) known.thrown.add(name);
            }
            return super.visitThrow(tree, none);
        }

        // ---- what is ruled out

        @Override public Void visitLambdaExpression(LambdaExpressionTree t, Void n) { check(2, false, at(t)); return null; }
        @Override public Void visitMemberReference(MemberReferenceTree t, Void n) { check(2, false, at(t)); return null; }
        @Override public Void visitImport(ImportTree t, Void n) { check(4, false, at(t)); return null; }
        @Override public Void visitPackage(PackageTree t, Void n) { check(1, false, at(t)); return null; }
        @Override public Void visitTry(TryTree t, Void n) { check(6, false, at(t)); return null; }
        @Override public Void visitAssert(AssertTree t, Void n) { check(6, false, at(t)); return null; }
        @Override public Void visitSynchronized(SynchronizedTree t, Void n) { check(6, false, at(t)); return null; }
        @Override public Void visitTypeCast(TypeCastTree t, Void n) { check(7, false, at(t)); return null; }
        @Override public Void visitInstanceOf(InstanceOfTree t, Void n) { check(6, false, at(t)); return null; }
        @Override public Void visitAnnotation(AnnotationTree t, Void n) { check(10, false, at(t)); return null; }
        @Override public Void visitDoWhileLoop(DoWhileLoopTree t, Void n) { check(9, false, at(t)); return null; }

        @Override
        public Void visitLiteral(LiteralTree tree, Void none) {
            if (tree.getValue() instanceof String || tree.getValue() instanceof Character) {
                for (char c : tree.getValue().toString().toCharArray()) check(4, c >= 1 && c <= 127, at(tree));
            }
            check(3, !(tree.getValue() instanceof Double) && !(tree.getValue() instanceof Float), at(tree));
            return super.visitLiteral(tree, none);
        }

        // ---- loops

        @Override
        public Void visitForLoop(ForLoopTree tree, Void none) {
            boolean isCounted = false;
            for (ExpressionStatementTree step : tree.getUpdate()) {
                Tree.Kind kind = step.getExpression().getKind();
                if (kind == Tree.Kind.POSTFIX_INCREMENT || kind == Tree.Kind.POSTFIX_DECREMENT) {
                    String counter = ((UnaryTree) step.getExpression()).getExpression().toString();
                    isCounted |= compares(tree.getCondition(), counter);
                    check(9, !isAssigned(tree.getStatement(), counter), at(tree.getCondition()) + ": its counter is changed inside");
                }
            }
            check(9, isCounted, at(tree.getCondition()) + ": a counter against a bound");
            return super.visitForLoop(tree, none);
        }

        @Override
        public Void visitWhileLoop(WhileLoopTree tree, Void none) {
            String counter = "many";
            check(9, compares(tree.getCondition(), counter) && tree.getStatement().toString().contains(counter + "++"),
                at(tree) + ": a counter against a bound");
            return super.visitWhileLoop(tree, none);
        }

        private static boolean isAssigned(Tree body, String name) {
            boolean[] found = {false};
            new com.sun.source.util.TreeScanner<Void, Void>() {
                @Override public Void visitAssignment(AssignmentTree t, Void n) {
                    found[0] |= t.getVariable().toString().equals(name);
                    return super.visitAssignment(t, n);
                }
                @Override public Void visitCompoundAssignment(CompoundAssignmentTree t, Void n) {
                    found[0] |= t.getVariable().toString().equals(name);
                    return super.visitCompoundAssignment(t, n);
                }
                @Override public Void visitUnary(UnaryTree t, Void n) {
                    found[0] |= t.getKind().name().endsWith("CREMENT") && t.getExpression().toString().equals(name);
                    return super.visitUnary(t, n);
                }
            }.scan(body, null);
            return found[0];
        }

        /** Whether this name stands on one side of a comparison with a bound, joined with others by 'and' alone. */
        private static boolean compares(Tree condition, String name) {
            if (condition instanceof ParenthesizedTree) return compares(((ParenthesizedTree) condition).getExpression(), name);
            if (!(condition instanceof BinaryTree)) return false;
            BinaryTree both = (BinaryTree) condition;
            switch (both.getKind()) {
                case CONDITIONAL_AND:
                    return compares(both.getLeftOperand(), name) || compares(both.getRightOperand(), name);
                case LESS_THAN: case LESS_THAN_EQUAL: case GREATER_THAN: case GREATER_THAN_EQUAL:
                    return both.getLeftOperand().toString().equals(name) || both.getLeftOperand().toString().startsWith(name + " + ");
                default:
                    return false;
            }
        }

        // ---- what the machine could throw

        @Override
        public Void visitBinary(BinaryTree tree, Void none) {
            switch (tree.getKind()) {
                case DIVIDE: case REMAINDER:
                    checkDivisor(tree, tree.getRightOperand());
                    break;
                case PLUS:
                    check(10, !isText(tree.getLeftOperand()) && !isText(tree.getRightOperand()), at(tree) + ": texts are joined by a builder");
                    break;
                case EQUAL_TO: case NOT_EQUAL_TO:
                    check(6, !isText(tree.getLeftOperand()) && !isText(tree.getRightOperand()), at(tree) + ": of two texts");
                    break;
                default:
                    break;
            }
            return super.visitBinary(tree, none);
        }

        @Override
        public Void visitCompoundAssignment(CompoundAssignmentTree tree, Void none) {
            if (tree.getKind() == Tree.Kind.DIVIDE_ASSIGNMENT || tree.getKind() == Tree.Kind.REMAINDER_ASSIGNMENT) {
                checkDivisor(tree, tree.getExpression());
            }
            check(10, !isText(tree.getVariable()), at(tree) + ": texts are joined by a builder");
            return super.visitCompoundAssignment(tree, none);
        }

        private void checkDivisor(Tree whole, ExpressionTree divisor) {
            for (String name : variablesIn(divisor)) {
                check(7, isUnder(name + " > 0"), at(whole) + ": its divisor is looked at before");
            }
            check(7, !divisor.toString().equals("0"), at(whole));
        }

        @Override
        public Void visitArrayAccess(ArrayAccessTree tree, Void none) {
            for (String name : variablesIn(tree.getIndex())) {
                check(7, isLookedAt(name, tree), at(tree) + ": " + name + " is looked at before");
            }
            return super.visitArrayAccess(tree, none);
        }

        @Override
        public Void visitMemberSelect(MemberSelectTree tree, Void none) {
            if (known != null && known.name.startsWith("Maker.") && tree.getExpression().toString().equals("allowed")) {
                check(7, isUnder("allowed != null") || isUnder("allowed == null ||"), at(tree) + ": it may be null");
            }
            return super.visitMemberSelect(tree, none);
        }

        /** The names of variables in an expression, but for constants and those inside a floorMod by a constant. */
        private TreeSet<String> variablesIn(ExpressionTree expression) {
            TreeSet<String> names = new TreeSet<>();
            TreePath path = new TreePath(getCurrentPath(), expression);
            new TreePathScanner<Void, Void>() {
                @Override
                public Void visitIdentifier(IdentifierTree t, Void n) {
                    Element e = trees.getElement(getCurrentPath());
                    if (e instanceof VariableElement && ((VariableElement) e).getConstantValue() == null) names.add(t.toString());
                    return null;
                }

                @Override
                public Void visitMethodInvocation(MethodInvocationTree t, Void n) {
                    return t.getMethodSelect().toString().equals("Math.floorMod") ? null : super.visitMethodInvocation(t, n);
                }

                @Override
                public Void visitArrayAccess(ArrayAccessTree t, Void n) {
                    names.add(t.toString());
                    return null;
                }

                @Override
                public Void visitMemberSelect(MemberSelectTree t, Void n) {
                    names.add(t.toString());
                    return null;
                }
            }.scan(path, null);
            names.removeIf(name -> name.equals("width") || name.equals("Math"));
            return names;
        }

        private List<String> conditionsAround() {
            List<String> conditions = new ArrayList<>();
            Tree below = null;
            for (TreePath p = getCurrentPath(); p != null && !(p.getLeaf() instanceof MethodTree); p = p.getParentPath()) {
                Tree leaf = p.getLeaf();
                if (leaf instanceof IfTree) conditions.add(((IfTree) leaf).getCondition().toString());
                if (leaf instanceof ConditionalExpressionTree) conditions.add(((ConditionalExpressionTree) leaf).getCondition().toString());
                if (leaf instanceof ForLoopTree && ((ForLoopTree) leaf).getCondition() != null) {
                    conditions.add(((ForLoopTree) leaf).getCondition().toString());
                }
                if (leaf instanceof BinaryTree) conditions.add(leaf.toString());
                if (leaf instanceof BlockTree) addLeaving((BlockTree) leaf, below, conditions);
                below = leaf;
            }
            return conditions;
        }

        /** An 'if' that leaves the method or the loop guards what stands behind it. */
        private static void addLeaving(BlockTree block, Tree below, List<String> conditions) {
            for (StatementTree s : block.getStatements()) {
                if (s == below) return;
                if (s instanceof IfTree) {
                    String then = ((IfTree) s).getThenStatement().toString();
                    if (then.contains("return") || then.contains("break")) conditions.add(((IfTree) s).getCondition().toString());
                }
            }
        }

        private boolean isUnder(String guard) {
            for (String condition : conditionsAround()) if (condition.contains(guard)) return true;
            return false;
        }

        private boolean isLookedAt(String name, Tree access) {
            String quoted = "(?<![\\w.])" + java.util.regex.Pattern.quote(name) + "(?![\\w\\[])";
            for (String condition : conditionsAround()) {
                String without = condition.replace(access.toString(), "");
                if (java.util.regex.Pattern.compile(quoted + "[^&|]*(<|>=|>|<=)").matcher(without).find()
                    || java.util.regex.Pattern.compile("is[A-Z]\\w*\\([^)]*" + quoted).matcher(without).find()) return true;
            }
            return false;
        }
    }

    // ---- the calls as a whole

    /** How many calls stand open at once under this one, with itself; a ring of calls is a fault. */
    private static int deep(String name, List<String> open) {
        Known known = METHODS.get(name);
        if (known == null) return 1;
        if (open.contains(name)) {
            check(8, false, "calls go round: " + open + " " + name);
            return 1;
        }
        open.add(name);
        int most = known.library.isEmpty() ? 1 : 2;
        for (String next : known.calls) most = Math.max(most, 1 + deep(next, open));
        open.remove(name);
        return most;
    }

    private static TreeSet<String> thrownBy(String name) {
        TreeSet<String> reached = new TreeSet<>();
        List<String> open = new ArrayList<>(List.of(name));
        TreeSet<String> all = new TreeSet<>();
        while (!open.isEmpty()) {
            Known known = METHODS.get(open.remove(open.size() - 1));
            if (known == null || !reached.add(known.name)) continue;
            all.addAll(known.thrown);
            open.addAll(known.calls);
        }
        return all;
    }

    private static void checkCalls() {
        TreeSet<String> used = new TreeSet<>();
        int ofFace = 0;
        for (Known known : METHODS.values()) {
            int depth = deep(known.name, new ArrayList<>());
            used.addAll(known.calls);
            if (known.isOfFace) {
                ofFace++;
                check(11, depth <= MOST_DEEP, known.name + " goes " + depth + " deep");
                check(6, thrownBy(known.name).equals(known.declared),
                    known.name + " throws " + thrownBy(known.name) + ", due is " + known.declared);
            }
        }
        check(1, ofFace == 43, "43 members of the face, not " + ofFace);
        for (Known known : METHODS.values()) {
            check(11, known.isOfFace || used.contains(known.name), known.name + " is called by none");
        }
    }

    public static void main(String[] args) throws Exception {
        JavaCompiler compiler = ToolProvider.getSystemJavaCompiler();
        if (compiler == null) {
            System.out.println("there is no compiler to read the class with");
            System.exit(1);
        }
        try (StandardJavaFileManager files = compiler.getStandardFileManager(null, null, null)) {
            JavacTask task = (JavacTask) compiler.getTask(null, files, d -> check(10, false, d.toString()),
                List.of("-proc:none", "-Xlint:all"), null, files.getJavaFileObjects(FILE));
            CompilationUnitTree unit = task.parse().iterator().next();
            task.analyze();
            check(1, unit.getTypeDecls().size() == 1, "one class stands in the file");
            Look look = new Look(Trees.instance(task), unit);
            look.scan(unit, null);
            check(11, look.classes <= 12, look.classes + " classes");
        }
        checkCalls();
        System.out.println(wrong == 0 ? "all " + looked + " things that were looked at keep the rules" : wrong + " things are wrong");
        System.exit(wrong == 0 ? 0 : 1);
    }
}
