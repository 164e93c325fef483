import com.sun.source.tree.BinaryTree;
import com.sun.source.tree.ClassTree;
import com.sun.source.tree.CompilationUnitTree;
import com.sun.source.tree.DoWhileLoopTree;
import com.sun.source.tree.ExpressionTree;
import com.sun.source.tree.ForLoopTree;
import com.sun.source.tree.MethodInvocationTree;
import com.sun.source.tree.MethodTree;
import com.sun.source.tree.NewArrayTree;
import com.sun.source.tree.NewClassTree;
import com.sun.source.tree.Tree;
import com.sun.source.tree.TypeCastTree;
import com.sun.source.tree.VariableTree;
import com.sun.source.tree.WhileLoopTree;
import com.sun.source.util.TreePath;
import com.sun.source.util.TreePathScanner;
import com.sun.source.util.Trees;
import java.util.EnumSet;
import java.util.Map;
import java.util.Set;
import java.util.TreeMap;
import java.util.TreeSet;
import javax.lang.model.element.Element;
import javax.lang.model.element.ElementKind;
import javax.lang.model.element.Modifier;
import javax.lang.model.type.ArrayType;
import javax.lang.model.type.TypeMirror;
import javax.tools.Diagnostic;

/** Goes over the source's tree, looks at each place by LANGUAGE.md's rules and gathers which method calls which. */
final class RulesOfTrees extends TreePathScanner<Void, String> {
    private static final String MAIN = "DrawerGloves";
    private static final int LONGEST = 60;
    private static final Set<String> NUMBERS = Set.of("int", "long", "short", "byte", "char", "boolean");
    private static final Set<String> LIBRARY = Set.of("Math.max(int,int)", "Math.min(int,int)", "Math.abs(int)",
        "Integer.bitCount(int)", "System.arraycopy(java.lang.Object,int,java.lang.Object,int,int)", "Object.Object()");
    private static final Set<Tree.Kind> NEVER = EnumSet.of(Tree.Kind.THROW, Tree.Kind.TRY, Tree.Kind.SYNCHRONIZED,
        Tree.Kind.ASSERT, Tree.Kind.LAMBDA_EXPRESSION, Tree.Kind.MEMBER_REFERENCE, Tree.Kind.ENHANCED_FOR_LOOP,
        Tree.Kind.INSTANCE_OF, Tree.Kind.STRING_LITERAL, Tree.Kind.FLOAT_LITERAL, Tree.Kind.DOUBLE_LITERAL,
        Tree.Kind.NULL_LITERAL, Tree.Kind.ANNOTATION, Tree.Kind.IMPORT, Tree.Kind.PACKAGE, Tree.Kind.YIELD,
        Tree.Kind.SWITCH_EXPRESSION, Tree.Kind.DIVIDE_ASSIGNMENT, Tree.Kind.REMAINDER_ASSIGNMENT);

    final Map<String, Set<String>> calls = new TreeMap<>();
    final Set<String> privateStatic = new TreeSet<>();
    private final Checks checks;
    private final Set<String> compared = new TreeSet<>();
    private CompilationUnitTree unit;
    private Trees trees;

    RulesOfTrees(Checks checks) {
        this.checks = checks;
    }

    void look(CompilationUnitTree one, Trees all) {
        unit = one;
        trees = all;
        checks.same("rule 1: classes of the file", one.getTypeDecls().size(), 1);
        scan(one, "");
    }

    private void holds(boolean right, String what) {
        checks.same(what, right ? 1 : 0, 1);
    }

    private Element element() {
        return trees.getElement(getCurrentPath());
    }

    private static String nameOf(Element method) {
        String name = method.toString();
        if (method.getKind() == ElementKind.CONSTRUCTOR) {
            name = method.getEnclosingElement().getSimpleName() + name.substring(name.indexOf('('));
        }
        return method.getEnclosingElement().getSimpleName() + "." + name;
    }

    private boolean isOwn(Element type) {
        return type.toString().equals(MAIN) || type.toString().startsWith(MAIN + ".");
    }

    /** The class makes no use of what rules 3 to 10 allow beyond this, so none of it is looked at closer. */
    @Override
    public Void scan(Tree tree, String in) {
        if (tree != null && NEVER.contains(tree.getKind())) {
            holds(false, "rules 2 to 10: " + tree.getKind() + " in " + in + ": " + tree);
        }
        return super.scan(tree, in);
    }

    /** Rule 2. */
    @Override
    public Void visitClass(ClassTree tree, String in) {
        Tree.Kind around = getCurrentPath().getParentPath().getLeaf().getKind();
        Set<Modifier> modifiers = tree.getModifiers().getFlags();
        boolean main = around == Tree.Kind.COMPILATION_UNIT;
        holds(main || around == Tree.Kind.CLASS, "rule 2: where " + tree.getSimpleName() + " stands");
        holds(main || modifiers.contains(Modifier.STATIC), "rule 2: static: " + tree.getSimpleName());
        for (Tree member : tree.getMembers()) {
            holds(member.getKind() != Tree.Kind.BLOCK, "rule 5: no block in " + tree.getSimpleName());
        }
        return super.visitClass(tree, tree.getSimpleName().toString());
    }

    /** Rules 3 and 5. */
    @Override
    public Void visitVariable(VariableTree tree, String in) {
        Element e = element();
        isOfTheRules(e.asType(), in + " " + tree.getName());
        if (e.getModifiers().contains(Modifier.STATIC)) {
            holds(e.getModifiers().contains(Modifier.FINAL), "rule 5: final: " + tree.getName());
            holds(e.asType().getKind().isPrimitive(), "rule 5: a number: " + tree.getName());
        }
        return super.visitVariable(tree, in);
    }

    private void isOfTheRules(TypeMirror type, String where) {
        TypeMirror part = type;
        int dimensions = 0;
        while (part instanceof ArrayType) {
            part = ((ArrayType) part).getComponentType();
            dimensions++;
        }
        boolean number = NUMBERS.contains(part.toString());
        boolean own = part.toString().startsWith(MAIN + ".");
        holds(number && dimensions <= 2 || own && dimensions <= 1, "rule 3: " + type + " of " + where);
    }

    /** Rule 11. */
    @Override
    public Void visitMethod(MethodTree tree, String in) {
        Element e = element();
        String name = nameOf(e);
        calls.putIfAbsent(name, new TreeSet<>());
        if (e.getModifiers().containsAll(Set.of(Modifier.PRIVATE, Modifier.STATIC))) privateStatic.add(name);
        holds(linesOf(tree, e) <= LONGEST, "rule 11: lines of " + name);
        holds(tree.getParameters().size() <= 7, "rule 11: parameters of " + name);
        compared.clear();
        return super.visitMethod(tree, name);
    }

    private long linesOf(MethodTree tree, Element e) {
        long from = trees.getSourcePositions().getStartPosition(unit, tree);
        long to = trees.getSourcePositions().getEndPosition(unit, tree);
        // a constructor that stands nowhere in the source, as javac makes it, has no end
        if (to == Diagnostic.NOPOS) return e.getKind() == ElementKind.CONSTRUCTOR ? 0 : LONGEST + 1;
        return unit.getLineMap().getLineNumber(to) - unit.getLineMap().getLineNumber(from) + 1;
    }

    /** Rule 4, and for rules 8 and 11 which method calls which. */
    @Override
    public Void visitMethodInvocation(MethodInvocationTree tree, String in) {
        Element e = element();
        String name = nameOf(e);
        holds(isOwn(e.getEnclosingElement()) || LIBRARY.contains(name), "rule 4: " + name + " in " + in);
        if (calls.containsKey(in)) calls.get(in).add(name);
        return super.visitMethodInvocation(tree, in);
    }

    /** Rule 12: all is made once, when the object is. */
    @Override
    public Void visitNewClass(NewClassTree tree, String in) {
        Element e = element();
        holds(tree.getClassBody() == null, "rule 2: no class without a name in " + in);
        holds(isOwn(e.getEnclosingElement()), "rule 4: new " + e + " in " + in);
        holds(isMaking(in), "rule 12: new " + e + " in " + in);
        if (calls.containsKey(in)) calls.get(in).add(nameOf(e));
        return super.visitNewClass(tree, in);
    }

    @Override
    public Void visitNewArray(NewArrayTree tree, String in) {
        isOfTheRules(trees.getTypeMirror(getCurrentPath()), in);
        holds(isMaking(in), "rule 12: " + tree + " in " + in);
        return super.visitNewArray(tree, in);
    }

    /** A constructor, or what a field is at first (then it stands in no method). */
    private static boolean isMaking(String in) {
        int dot = in.indexOf('.');
        return dot < 0 || in.startsWith(in.substring(0, dot) + "(", dot + 1);
    }

    @Override
    public Void visitTypeCast(TypeCastTree tree, String in) {
        holds(NUMBERS.contains(tree.getType().toString()), "rule 7: " + tree + " in " + in);
        return super.visitTypeCast(tree, in);
    }

    /** Rule 7: what divides is a constant, or was compared with something ahead of it in the same method. */
    @Override
    public Void visitBinary(BinaryTree tree, String in) {
        if (tree.getKind() == Tree.Kind.DIVIDE || tree.getKind() == Tree.Kind.REMAINDER) {
            ExpressionTree by = tree.getRightOperand();
            Element e = trees.getElement(new TreePath(getCurrentPath(), by));
            boolean constant = by.getKind() == Tree.Kind.INT_LITERAL
                || e != null && e.getModifiers().containsAll(Set.of(Modifier.STATIC, Modifier.FINAL));
            holds(constant || compared.contains(by.toString()), "rule 7: by what " + tree + " divides, in " + in);
        } else if (isComparison(tree)) {
            compared.add(tree.getLeftOperand().toString());
        }
        return super.visitBinary(tree, in);
    }

    private static boolean isComparison(Tree tree) {
        switch (tree.getKind()) {
            case EQUAL_TO:
            case NOT_EQUAL_TO:
            case LESS_THAN:
            case LESS_THAN_EQUAL:
            case GREATER_THAN:
            case GREATER_THAN_EQUAL:
                return true;
            default:
                return false;
        }
    }

    @Override
    public Void visitForLoop(ForLoopTree tree, String in) {
        hasAnEnd(tree.getCondition(), in);
        holds(!tree.getUpdate().isEmpty(), "rule 9: a loop that counts in " + in);
        return super.visitForLoop(tree, in);
    }

    @Override
    public Void visitWhileLoop(WhileLoopTree tree, String in) {
        hasAnEnd(tree.getCondition(), in);
        return super.visitWhileLoop(tree, in);
    }

    @Override
    public Void visitDoWhileLoop(DoWhileLoopTree tree, String in) {
        hasAnEnd(tree.getCondition(), in);
        return super.visitDoWhileLoop(tree, in);
    }

    /** Rule 9: a counter below a bound ends every loop of the class. */
    private void hasAnEnd(ExpressionTree condition, String in) {
        boolean[] below = {false};
        if (condition != null) {
            new TreePathScanner<Void, Void>() {
                @Override
                public Void visitBinary(BinaryTree tree, Void none) {
                    if (tree.getKind() == Tree.Kind.CONDITIONAL_OR) return null;
                    if (tree.getKind() == Tree.Kind.LESS_THAN) below[0] = true;
                    return super.visitBinary(tree, none);
                }
            }.scan(new TreePath(getCurrentPath(), condition), null);
        }
        holds(below[0], "rule 9: a loop's end in " + in + ": " + condition);
    }
}
