import com.sun.source.tree.AssignmentTree;
import com.sun.source.tree.BinaryTree;
import com.sun.source.tree.ClassTree;
import com.sun.source.tree.CompilationUnitTree;
import com.sun.source.tree.ExpressionTree;
import com.sun.source.tree.LiteralTree;
import com.sun.source.tree.MemberSelectTree;
import com.sun.source.tree.MethodInvocationTree;
import com.sun.source.tree.MethodTree;
import com.sun.source.tree.NewArrayTree;
import com.sun.source.tree.NewClassTree;
import com.sun.source.tree.ThrowTree;
import com.sun.source.tree.Tree;
import com.sun.source.tree.VariableTree;
import com.sun.source.util.JavacTask;
import com.sun.source.util.TreePath;
import com.sun.source.util.TreePathScanner;
import com.sun.source.util.Trees;
import java.io.IOException;
import java.nio.file.Path;
import java.util.HashMap;
import java.util.HashSet;
import java.util.List;
import java.util.Map;
import java.util.Set;
import java.util.TreeSet;
import javax.lang.model.element.Element;
import javax.lang.model.element.ElementKind;
import javax.lang.model.element.ExecutableElement;
import javax.lang.model.element.Modifier;
import javax.lang.model.type.TypeMirror;
import javax.tools.JavaCompiler;
import javax.tools.StandardJavaFileManager;
import javax.tools.ToolProvider;

/**
 * Holds the program, as javac reads it, against what ../shared/LANGUAGE.md says of its text. The
 * lists tell what this program needs, which is less than what the rules let: who needs more looks
 * it up there and adds it here. Rule 9 and the guards of rule 7 are for a reader to look at.
 */
public final class LanguageTest extends TreePathScanner<Void, Void> {
  private static final int LINES_MOST = 60;
  private static final int PARAMETERS_MOST = 7;
  private static final int DEPTH_MOST = 8;
  private static final int CLASSES_MOST = 12;
  private static final int FIELDS_MOST = 20;

  /** What the program is written of (rules 2, 6 and 10): no try, lambda, import, instanceof .. */
  private static final Set<String> KINDS = Set.of("COMPILATION_UNIT", "CLASS", "MODIFIERS",
      "VARIABLE", "METHOD", "PRIMITIVE_TYPE", "ARRAY_TYPE", "IDENTIFIER", "MEMBER_SELECT", "BLOCK",
      "IF", "FOR_LOOP", "WHILE_LOOP", "SWITCH", "CASE", "RETURN", "THROW", "EXPRESSION_STATEMENT",
      "METHOD_INVOCATION", "NEW_CLASS", "NEW_ARRAY", "ARRAY_ACCESS", "ASSIGNMENT", "PARENTHESIZED",
      "CONDITIONAL_EXPRESSION", "TYPE_CAST", "INT_LITERAL", "LONG_LITERAL", "CHAR_LITERAL",
      "STRING_LITERAL", "BOOLEAN_LITERAL", "PLUS", "MINUS", "MULTIPLY", "DIVIDE", "REMAINDER",
      "UNARY_MINUS", "POSTFIX_INCREMENT", "LOGICAL_COMPLEMENT", "CONDITIONAL_AND",
      "CONDITIONAL_OR", "EQUAL_TO", "NOT_EQUAL_TO", "LESS_THAN", "LESS_THAN_EQUAL",
      "GREATER_THAN", "GREATER_THAN_EQUAL");
  private static final Set<Modifier> METHOD_FLAGS =
      Set.of(Modifier.PUBLIC, Modifier.PRIVATE, Modifier.STATIC);
  private static final Set<String> NUMBERS = Set.of("int", "long", "char", "boolean");
  private static final Set<String> TEXTS = Set.of("java.lang.String", "java.lang.StringBuilder");
  private static final Set<String> STATIC_ARRAYS = Set.of("int[]", "long[]", "char[]", "byte[]");
  /** Of rule 4's library. */
  private static final Set<String> LIBRARY = Set.of("java.lang.StringBuilder.append(char)",
      "java.lang.StringBuilder.setLength(int)", "java.lang.StringBuilder.length()",
      "java.lang.StringBuilder.charAt(int)", "java.lang.StringBuilder.toString()");
  private static final Set<String> EXCEPTIONS =
      Set.of("IndexOutOfBoundsException", "IllegalArgumentException");

  private final CompilationUnitTree file;
  private final Trees trees;
  private final Map<Element, Set<Element>> calls = new HashMap<>();
  private final Set<String> faceNames = new HashSet<>();
  private final Set<String> privateNames = new TreeSet<>();
  private final Set<Element> face = new HashSet<>();
  private int classes = 0;

  private LanguageTest(CompilationUnitTree file, Trees trees) {
    this.file = file;
    this.trees = trees;
  }

  public static void main(String[] args) throws IOException {
    JavaCompiler javac = ToolProvider.getSystemJavaCompiler();
    try (StandardJavaFileManager files = javac.getStandardFileManager(null, null, null)) {
      JavacTask task = (JavacTask) javac.getTask(null, files, null, List.of("-proc:none"), null,
          files.getJavaFileObjects(Path.of("src/main/java/Manypanes.java")));
      CompilationUnitTree file = task.parse().iterator().next();
      task.analyze();
      LanguageTest test = new LanguageTest(file, Trees.instance(task));
      test.scan(file, null);
      test.holdAll();
    }
    Script.end();
  }

  private void holdAll() {
    if (classes < 2 || classes > CLASSES_MOST) {
      fault(file, classes + " classes");
    }
    if (face.size() != 41) {
      fault(file, face.size() + " methods of the face were looked at");
    }
    for (String name : privateNames) {
      if (faceNames.contains(name)) {
        fault(file, "private with a public one's name: " + name);
      }
    }
    for (Element method : face) {
      int depth = depthOf(method, new HashSet<>());
      if (depth > DEPTH_MOST) {
        fault(file, method + " goes " + depth + " deep");
      }
    }
  }

  @Override
  public Void scan(Tree tree, Void nothing) {
    if (tree != null && !KINDS.contains(tree.getKind().name())) {
      fault(tree, tree.getKind() + " is not on the list");
    }
    return super.scan(tree, nothing);
  }

  @Override
  public Void visitCompilationUnit(CompilationUnitTree tree, Void nothing) {
    if (tree.getPackage() != null || !tree.getImports().isEmpty()
        || tree.getTypeDecls().size() != 1) {
      fault(tree, "a package, an import or a second class");
    }
    return super.visitCompilationUnit(tree, nothing);
  }

  @Override
  public Void visitClass(ClassTree tree, Void nothing) {
    classes++;
    Set<Modifier> flags = tree.getModifiers().getFlags();
    boolean outside = getCurrentPath().getParentPath().getLeaf() == file;
    Set<Modifier> due = outside ? Set.of(Modifier.PUBLIC, Modifier.FINAL)
        : Set.of(Modifier.PRIVATE, Modifier.STATIC, Modifier.FINAL);
    if (!flags.equals(due)) {
      fault(tree, tree.getSimpleName() + " is " + flags);
    }
    int fields = 0;
    for (Tree member : tree.getMembers()) {
      if (member.getKind() == Tree.Kind.BLOCK) {
        fault(member, "a block that stands in no method");
      }
      if (member instanceof VariableTree && !isStatic((VariableTree) member)) {
        fields++;
      }
    }
    if (fields > FIELDS_MOST) {
      fault(tree, fields + " fields");
    }
    return super.visitClass(tree, nothing);
  }

  @Override
  public Void visitVariable(VariableTree tree, Void nothing) {
    TypeMirror type = trees.getTypeMirror(getCurrentPath());
    holdType(tree, type);
    Set<Modifier> flags = tree.getModifiers().getFlags();
    boolean isField = elementHere().getKind() == ElementKind.FIELD;
    if (isField && !flags.contains(Modifier.PRIVATE)) {
      fault(tree, "a field that is not private");
    }
    if (isStatic(tree)) {
      holdConstant(tree, type.toString());
    }
    return super.visitVariable(tree, nothing);
  }

  private void holdConstant(VariableTree tree, String type) {
    boolean let = NUMBERS.contains(type) || type.equals("java.lang.String")
        || STATIC_ARRAYS.contains(type);
    if (!let || !tree.getModifiers().getFlags().contains(Modifier.FINAL)
        || tree.getInitializer() == null) {
      fault(tree, "no constant: " + tree.getName());
    }
  }

  @Override
  public Void visitMethod(MethodTree tree, Void nothing) {
    ExecutableElement method = (ExecutableElement) elementHere();
    calls.putIfAbsent(method, new HashSet<>());
    if (tree.getReturnType() != null && tree.getReturnType().toString().equals("void")) {
      holdVoid(tree, method);
    } else if (tree.getReturnType() != null) {
      holdType(tree, method.getReturnType());
    }
    if (method.getModifiers().contains(Modifier.PUBLIC)
        && method.getKind() == ElementKind.METHOD) {
      face.add(method);
      faceNames.add(tree.getName().toString());
    } else if (method.getKind() == ElementKind.METHOD) {
      privateNames.add(tree.getName().toString());
    }
    if (!METHOD_FLAGS.containsAll(method.getModifiers())) {
      fault(tree, tree.getName() + " is " + method.getModifiers());
    }
    if (tree.getParameters().size() > PARAMETERS_MOST) {
      fault(tree, "too many parameters: " + tree.getName());
    }
    if (linesOf(tree) > LINES_MOST) {
      fault(tree, "too long: " + tree.getName());
    }
    return super.visitMethod(tree, nothing);
  }

  private void holdVoid(MethodTree tree, ExecutableElement method) {
    if (method.getModifiers().contains(Modifier.PUBLIC)) {
      fault(tree, "a method of the face without an answer: " + tree.getName());
    }
  }

  @Override
  public Void visitMethodInvocation(MethodInvocationTree tree, Void nothing) {
    ExpressionTree called = tree.getMethodSelect();
    TreePath path = new TreePath(getCurrentPath(), called);
    Element method = trees.getElement(path);
    boolean ofObject = method.getEnclosingElement().toString().equals("java.lang.Object");
    if (isOwn(method.getEnclosingElement().toString())) {
      calls.computeIfAbsent(methodAround(), key -> new HashSet<>()).add(method);
    } else if (called instanceof MemberSelectTree) {
      TreePath on = new TreePath(path, ((MemberSelectTree) called).getExpression());
      String told = trees.getTypeMirror(on) + "." + method;
      if (!LIBRARY.contains(told)) {
        fault(tree, "not of the library that is let: " + told);
      }
    } else if (!ofObject || method.getKind() != ElementKind.CONSTRUCTOR) {
      fault(tree, "not of the library that is let: " + method);
    }
    return super.visitMethodInvocation(tree, nothing);
  }

  @Override
  public Void visitNewClass(NewClassTree tree, Void nothing) {
    String type = trees.getTypeMirror(getCurrentPath()).toString();
    boolean isThrown = getCurrentPath().getParentPath().getLeaf() instanceof ThrowTree;
    if (isOwn(type)) {
      calls.computeIfAbsent(methodAround(), key -> new HashSet<>()).add(elementHere());
    } else if (!isThrown && !(TEXTS.contains(type) && tree.getArguments().isEmpty())) {
      fault(tree, "made: " + type);
    }
    return super.visitNewClass(tree, nothing);
  }

  @Override
  public Void visitNewArray(NewArrayTree tree, Void nothing) {
    holdType(tree, trees.getTypeMirror(getCurrentPath()));
    return super.visitNewArray(tree, nothing);
  }

  @Override
  public Void visitThrow(ThrowTree tree, Void nothing) {
    boolean let = tree.getExpression() instanceof NewClassTree;
    if (let) {
      NewClassTree made = (NewClassTree) tree.getExpression();
      let = EXCEPTIONS.contains(made.getIdentifier().toString()) && made.getArguments().size() <= 1;
      for (ExpressionTree text : made.getArguments()) {
        let = let && text.getKind() == Tree.Kind.STRING_LITERAL;
      }
    }
    if (!let || methodAround().getKind() != ElementKind.METHOD) {
      fault(tree, "thrown: " + tree);
    }
    return super.visitThrow(tree, nothing);
  }

  @Override
  public Void visitBinary(BinaryTree tree, Void nothing) {
    for (ExpressionTree side : List.of(tree.getLeftOperand(), tree.getRightOperand())) {
      TypeMirror type = trees.getTypeMirror(new TreePath(getCurrentPath(), side));
      if (TEXTS.contains(type.toString())) {
        fault(tree, "a text in " + tree);
      }
    }
    return super.visitBinary(tree, nothing);
  }

  @Override
  public Void visitAssignment(AssignmentTree tree, Void nothing) {
    Element to = trees.getElement(new TreePath(getCurrentPath(), tree.getVariable()));
    if (to != null && to.getModifiers().contains(Modifier.STATIC)) {
      fault(tree, "static and changed: " + to);
    }
    return super.visitAssignment(tree, nothing);
  }

  @Override
  public Void visitLiteral(LiteralTree tree, Void nothing) {
    if (tree.getValue() instanceof String || tree.getValue() instanceof Character) {
      for (char sign : tree.getValue().toString().toCharArray()) {
        if (sign < 1 || sign > 127) {
          fault(tree, "a sign of number " + (int) sign);
        }
      }
    }
    return super.visitLiteral(tree, nothing);
  }

  private void holdType(Tree tree, TypeMirror type) {
    String told = type.toString();
    String plain = told.replace("[]", "");
    int dimensions = (told.length() - plain.length()) / 2;
    boolean let = NUMBERS.contains(plain) ? dimensions <= 2
        : isOwn(plain) ? dimensions <= 1 : TEXTS.contains(plain) && dimensions == 0;
    if (!let) {
      fault(tree, "of the type " + told);
    }
  }

  /** How many calls stand open at most, with this one; a call that comes back to itself is told. */
  private int depthOf(Element method, Set<Element> open) {
    if (!open.add(method)) {
      fault(file, "a recursion through " + method);
      return 0;
    }
    int most = 0;
    for (Element next : calls.getOrDefault(method, Set.of())) {
      most = Math.max(most, depthOf(next, open));
    }
    open.remove(method);
    return most + 1;
  }

  private int linesOf(MethodTree tree) {
    long from = trees.getSourcePositions().getStartPosition(file, tree);
    long to = trees.getSourcePositions().getEndPosition(file, tree);
    if (from < 0 || to < 0) {
      return 0;
    }
    return (int) (file.getLineMap().getLineNumber(to) - file.getLineMap().getLineNumber(from)) + 1;
  }

  private Element elementHere() {
    return trees.getElement(getCurrentPath());
  }

  /** The one in whose text the scan stands; of a field's initialiser the class. */
  private Element methodAround() {
    for (TreePath path = getCurrentPath(); path != null; path = path.getParentPath()) {
      if (path.getLeaf() instanceof MethodTree || path.getLeaf() instanceof ClassTree) {
        return trees.getElement(path);
      }
    }
    throw new IllegalStateException("in no class");
  }

  private static boolean isOwn(String type) {
    return type.equals("Manypanes") || type.startsWith("Manypanes.");
  }

  private static boolean isStatic(VariableTree tree) {
    return tree.getModifiers().getFlags().contains(Modifier.STATIC);
  }

  private void fault(Tree tree, String what) {
    long at = trees.getSourcePositions().getStartPosition(file, tree);
    Script.fault("line " + (at < 0 ? 0 : file.getLineMap().getLineNumber(at)) + ": " + what);
  }
}
