import com.sun.source.tree.BinaryTree;
import com.sun.source.tree.BlockTree;
import com.sun.source.tree.ClassTree;
import com.sun.source.tree.CompilationUnitTree;
import com.sun.source.tree.CompoundAssignmentTree;
import com.sun.source.tree.ExpressionTree;
import com.sun.source.tree.ForLoopTree;
import com.sun.source.tree.LineMap;
import com.sun.source.tree.MethodInvocationTree;
import com.sun.source.tree.MethodTree;
import com.sun.source.tree.NewArrayTree;
import com.sun.source.tree.NewClassTree;
import com.sun.source.tree.ThrowTree;
import com.sun.source.tree.Tree;
import com.sun.source.tree.Tree.Kind;
import com.sun.source.tree.VariableTree;
import com.sun.source.tree.WhileLoopTree;
import com.sun.source.util.JavacTask;
import com.sun.source.util.TreePath;
import com.sun.source.util.TreePathScanner;
import com.sun.source.util.Trees;
import java.io.IOException;
import java.nio.file.Path;
import java.util.EnumSet;
import java.util.HashMap;
import java.util.HashSet;
import java.util.List;
import java.util.Map;
import java.util.Set;
import javax.lang.model.element.Element;
import javax.lang.model.element.ElementKind;
import javax.lang.model.element.Modifier;
import javax.lang.model.element.VariableElement;
import javax.tools.JavaCompiler;
import javax.tools.StandardJavaFileManager;
import javax.tools.ToolProvider;

/**
 * Looks in the source, as the compiler reads it, for what ../shared/LANGUAGE.md leaves out and
 * plain text does not tell: who calls whom and how deep, what is made where, loops and divisors.
 */
final class StructureTest extends TreePathScanner<Void, Void> {
  private static final Path SOURCE = Path.of("src/main/java/GlanceMarket.java");
  private static final Set<String> LIBRARY = Set.of("Math.min", "Math.max");
  private static final Set<String> TYPES = Set.of("int", "long", "char", "boolean", "int[]",
      "char[]");

  // The rules allow a narrow kind of try; this class needs none.
  private static final Set<Kind> FORBIDDEN = EnumSet.of(Kind.TRY, Kind.LAMBDA_EXPRESSION,
      Kind.MEMBER_REFERENCE, Kind.SYNCHRONIZED, Kind.ASSERT);

  private final Trees trees;
  private final CompilationUnitTree unit;
  private final LineMap lines;
  private final Map<Element, Set<Element>> calls = new HashMap<>();
  private int classes = 0;

  private StructureTest(Trees trees, CompilationUnitTree unit) {
    this.trees = trees;
    this.unit = unit;
    lines = unit.getLineMap();
  }

  public static void main(String[] args) throws IOException {
    JavaCompiler compiler = ToolProvider.getSystemJavaCompiler();
    try (StandardJavaFileManager files = compiler.getStandardFileManager(null, null, null)) {
      JavacTask task = (JavacTask) compiler.getTask(null, files, null, List.of("-proc:none"), null,
          files.getJavaFileObjects(SOURCE));
      CompilationUnitTree unit = task.parse().iterator().next();
      task.analyze();
      StructureTest test = new StructureTest(Trees.instance(task), unit);
      test.scan(unit, null);
      test.callsEnd();
    }
    Check.end();
  }

  private void must(String rule, boolean isKept, Tree at) {
    if (!isKept) {
      long start = trees.getSourcePositions().getStartPosition(unit, at);
      Check.due("LANGUAGE " + rule + ", line " + lines.getLineNumber(start), true, false);
    }
  }

  private Element elementOf(Tree tree) {
    return trees.getElement(new TreePath(getCurrentPath(), tree));
  }

  private String typeOf(Tree tree) {
    return String.valueOf(trees.getTypeMirror(new TreePath(getCurrentPath(), tree)));
  }

  /** The method or constructor round this place, or null in a field's initialiser. */
  private MethodTree around() {
    for (TreePath path = getCurrentPath(); path != null; path = path.getParentPath()) {
      if (path.getLeaf() instanceof MethodTree method) {
        return method;
      }
    }
    return null;
  }

  private boolean isInConstructor() {
    return around() != null && around().getReturnType() == null;
  }

  private boolean isUnder(Kind kind) {
    return getCurrentPath().getParentPath().getLeaf().getKind() == kind;
  }

  @Override
  public Void scan(Tree tree, Void none) {
    if (tree != null) {
      must("2 and 6: " + tree.getKind(), !FORBIDDEN.contains(tree.getKind()), tree);
    }
    return super.scan(tree, none);
  }

  @Override
  public Void visitClass(ClassTree tree, Void none) {
    classes++;
    must("11: some twelve classes", classes <= 12, tree);
    Set<Modifier> is = tree.getModifiers().getFlags();
    must("1: final", is.contains(Modifier.FINAL), tree);
    must("2: static and hidden",
        classes == 1 || is.contains(Modifier.STATIC) && is.contains(Modifier.PRIVATE), tree);
    int fields = 0;
    for (Tree member : tree.getMembers()) {
      boolean isField = member instanceof VariableTree field
          && !field.getModifiers().getFlags().contains(Modifier.STATIC);
      fields += isField ? 1 : 0;
      must("5: no initialiser block", !(member instanceof BlockTree), member);
    }
    must("11: some twenty fields", fields <= 20, tree);
    return super.visitClass(tree, none);
  }

  @Override
  public Void visitMethod(MethodTree tree, Void none) {
    long start = trees.getSourcePositions().getStartPosition(unit, tree);
    long end = trees.getSourcePositions().getEndPosition(unit, tree);
    must("11: some sixty lines",
        lines.getLineNumber(end) - lines.getLineNumber(start) < 60, tree);
    must("11: seven parameters", tree.getParameters().size() <= 7, tree);
    calls.putIfAbsent(trees.getElement(getCurrentPath()), new HashSet<>());
    return super.visitMethod(tree, none);
  }

  @Override
  public Void visitMethodInvocation(MethodInvocationTree tree, Void none) {
    Element called = elementOf(tree.getMethodSelect());
    String name = called.getEnclosingElement().getSimpleName() + "." + called.getSimpleName();
    boolean isOwn = trees.getPath(called) != null;
    boolean isSuper = called.getKind() == ElementKind.CONSTRUCTOR;
    must("4: " + name, isOwn || isSuper || LIBRARY.contains(name), tree);
    must("12: a constructor calls no method", isSuper || !isInConstructor(), tree);
    if (isOwn && around() != null) {
      Element caller = trees.getElement(trees.getPath(unit, around()));
      calls.computeIfAbsent(caller, c -> new HashSet<>()).add(called);
    }
    return super.visitMethodInvocation(tree, none);
  }

  @Override
  public Void visitNewClass(NewClassTree tree, Void none) {
    must("12: a call makes no object but what it throws",
        isUnder(Kind.THROW) || around() == null || isInConstructor(), tree);
    must("2: no class without a name", tree.getClassBody() == null, tree);
    return super.visitNewClass(tree, none);
  }

  @Override
  public Void visitNewArray(NewArrayTree tree, Void none) {
    must("12: arrays are made as fields", around() == null, tree);
    return super.visitNewArray(tree, none);
  }

  @Override
  public Void visitThrow(ThrowTree tree, Void none) {
    must("6: no throw in a constructor", !isInConstructor(), tree);
    must("6: throw new", tree.getExpression() instanceof NewClassTree, tree);
    return super.visitThrow(tree, none);
  }

  @Override
  public Void visitVariable(VariableTree tree, Void none) {
    Element is = trees.getElement(getCurrentPath());
    String type = is.asType().toString();
    must("3: " + type, TYPES.contains(type) || type.startsWith("GlanceMarket."), tree);
    if (is.getModifiers().contains(Modifier.STATIC)) {
      must("5: a constant", ((VariableElement) is).getConstantValue() != null, tree);
    }
    return super.visitVariable(tree, none);
  }

  @Override
  public Void visitBinary(BinaryTree tree, Void none) {
    must("10: texts are not joined by +", !typeOf(tree).endsWith("String"), tree);
    if (tree.getKind() == Kind.DIVIDE || tree.getKind() == Kind.REMAINDER) {
      must("7: a divisor is looked at", isNeverZero(tree.getRightOperand()), tree);
    }
    return super.visitBinary(tree, none);
  }

  @Override
  public Void visitCompoundAssignment(CompoundAssignmentTree tree, Void none) {
    must("10: texts are not joined by +=", !typeOf(tree).endsWith("String"), tree);
    if (tree.getKind() == Kind.DIVIDE_ASSIGNMENT || tree.getKind() == Kind.REMAINDER_ASSIGNMENT) {
      must("7: a divisor is looked at", isNeverZero(tree.getExpression()), tree);
    }
    return super.visitCompoundAssignment(tree, none);
  }

  /** A constant, a number of its own, a float or double, or tested in the same method. */
  private boolean isNeverZero(ExpressionTree divisor) {
    Element is = elementOf(divisor);
    boolean isConstant = is instanceof VariableElement v && v.getConstantValue() != null;
    boolean isRounded = typeOf(divisor).equals("float") || typeOf(divisor).equals("double");
    boolean isTested = around() != null
        && around().getBody().toString().contains(divisor + " == 0");
    return isConstant || divisor.getKind() == Kind.INT_LITERAL || isRounded || isTested;
  }

  @Override
  public Void visitForLoop(ForLoopTree tree, Void none) {
    must("9: a counter", tree.getUpdate().size() == 1 && tree.getInitializer().size() == 1, tree);
    must("9: a bound", tree.getCondition() != null
        && tree.getCondition().getKind() == Kind.LESS_THAN, tree);
    return super.visitForLoop(tree, none);
  }

  @Override
  public Void visitWhileLoop(WhileLoopTree tree, Void none) {
    String condition = tree.getCondition().toString();
    must("9: a counter that goes down to 0", condition.matches("\\(\\w+ > 0 .*"), tree);
    String counter = condition.replaceAll("\\((\\w+) .*", "$1");
    must("9: that goes down", tree.getStatement().toString().contains(counter + "--"), tree);
    return super.visitWhileLoop(tree, none);
  }

  private void callsEnd() {
    Check.due("methods were found", true, calls.size() > 80);
    for (Element method : calls.keySet()) {
      Check.due("LANGUAGE 11: " + method + " goes at most eight deep", true,
          depthOf(method, 0) <= 8);
    }
  }

  /** How many calls stand open at once; it does not look deeper than one too many. */
  private int depthOf(Element method, int open) {
    if (open > 8) {
      return 1;
    }
    int deepest = 0;
    for (Element called : calls.getOrDefault(method, Set.of())) {
      deepest = Math.max(deepest, depthOf(called, open + 1));
    }
    return deepest + 1;
  }
}
