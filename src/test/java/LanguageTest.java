import com.sun.source.tree.AssertTree;
import com.sun.source.tree.BinaryTree;
import com.sun.source.tree.ClassTree;
import com.sun.source.tree.CompilationUnitTree;
import com.sun.source.tree.CompoundAssignmentTree;
import com.sun.source.tree.IdentifierTree;
import com.sun.source.tree.InstanceOfTree;
import com.sun.source.tree.LambdaExpressionTree;
import com.sun.source.tree.MemberReferenceTree;
import com.sun.source.tree.MemberSelectTree;
import com.sun.source.tree.MethodInvocationTree;
import com.sun.source.tree.MethodTree;
import com.sun.source.tree.NewArrayTree;
import com.sun.source.tree.NewClassTree;
import com.sun.source.tree.SynchronizedTree;
import com.sun.source.tree.ThrowTree;
import com.sun.source.tree.Tree;
import com.sun.source.tree.TryTree;
import com.sun.source.tree.TypeCastTree;
import com.sun.source.tree.VariableTree;
import com.sun.source.util.JavacTask;
import com.sun.source.util.TreePathScanner;
import com.sun.source.util.Trees;
import java.io.File;
import java.io.IOException;
import java.lang.reflect.Constructor;
import java.lang.reflect.Field;
import java.lang.reflect.Method;
import java.lang.reflect.Modifier;
import java.nio.file.Files;
import java.nio.file.Path;
import java.util.ArrayList;
import java.util.Arrays;
import java.util.HashMap;
import java.util.HashSet;
import java.util.List;
import java.util.Map;
import java.util.Set;
import java.util.TreeSet;
import javax.lang.model.element.Element;
import javax.lang.model.element.ElementKind;
import javax.lang.model.element.ExecutableElement;
import javax.tools.JavaCompiler;
import javax.tools.StandardJavaFileManager;
import javax.tools.ToolProvider;

/** The face is the document's, and the class keeps to what ../shared/LANGUAGE.md leaves. Runs in the project's folder. */
public final class LanguageTest {
  private static final File SOURCE = new File("src/main/java/Syndromehouse.java");
  private static final Path DOCUMENT = Path.of("../shared/DOC.md");

  /** Of the library, what the class may call; other calls that the rules let are added here when they are needed. */
  private static final Set<String> LIBRARY = Set.of(
      "java.lang.Integer.bitCount(int)", "java.lang.Integer.numberOfTrailingZeros(int)",
      "java.lang.Math.max(int,int)", "java.lang.Math.min(int,int)", "java.lang.Math.max(long,long)",
      "java.lang.StringBuilder.append(char)", "java.lang.StringBuilder.append(java.lang.String)",
      "java.lang.StringBuilder.append(int)", "java.lang.StringBuilder.toString()");

  private static final Set<String> THROWN = Set.of("java.lang.IllegalStateException",
      "java.lang.IllegalArgumentException", "java.lang.IndexOutOfBoundsException");

  private LanguageTest() {
  }

  public static void main(String[] args) throws IOException {
    face();
    Reader reader = read();
    Due.is("what is outside the rules", String.join("; ", reader.faults), "");
    Due.is("classes are twelve at most", reader.classes <= 12, true);
    int deepest = 0;
    for (String method : reader.calls.keySet()) {
      deepest = Math.max(deepest, reader.depth(method, new HashSet<>()));
    }
    Due.is("calls go at most eight deep: " + deepest, deepest <= 8, true);
    Due.is("no recursion", reader.isRecursive, false);
    Due.end("LanguageTest");
  }

  private static void face() throws IOException {
    TreeSet<String> due = new TreeSet<>();
    boolean isFace = false;
    for (String line : Files.readAllLines(DOCUMENT)) {
      isFace = isFace ? !line.equals("```") : line.startsWith("public final class Syndromehouse");
      if (isFace && line.startsWith("    public ")) {
        due.add(line.trim().replaceAll("(int|boolean) \\w+(?=[,)])", "$1").replace(";", ""));
      }
    }
    TreeSet<String> got = new TreeSet<>();
    for (Constructor<?> each : Syndromehouse.class.getDeclaredConstructors()) {
      got.add(signature(Modifier.toString(each.getModifiers()) + " Syndromehouse", each.getParameterTypes(),
          each.getExceptionTypes()));
    }
    for (Method each : Syndromehouse.class.getDeclaredMethods()) {
      if (!Modifier.isPrivate(each.getModifiers())) {
        got.add(signature(Modifier.toString(each.getModifiers()) + " " + each.getReturnType().getSimpleName() + " "
            + each.getName(), each.getParameterTypes(), each.getExceptionTypes()));
      }
    }
    for (Field each : Syndromehouse.class.getDeclaredFields()) {
      if (!Modifier.isPrivate(each.getModifiers())) {
        got.add("a field: " + each.getName());
      }
    }
    Due.is("the face", String.join("\n", got), String.join("\n", due));
    Due.is("methods of the face", due.size(), 50);
    Due.is("the class is public and final", Modifier.toString(Syndromehouse.class.getModifiers()), "public final");
    for (Class<?> inside : Syndromehouse.class.getDeclaredClasses()) {
      Due.is(inside.getName() + " is static", Modifier.isStatic(inside.getModifiers()), true);
      Due.is(inside.getName() + " is not public", Modifier.isPublic(inside.getModifiers()), false);
    }
  }

  private static String signature(String start, Class<?>[] parameters, Class<?>[] exceptions) {
    return start + "(" + names(parameters) + ")" + (exceptions.length > 0 ? " throws " + names(exceptions) : "");
  }

  private static String names(Class<?>[] classes) {
    List<String> names = new ArrayList<>();
    Arrays.stream(classes).forEach(each -> names.add(each.getSimpleName()));
    return String.join(", ", names);
  }

  private static Reader read() throws IOException {
    JavaCompiler compiler = ToolProvider.getSystemJavaCompiler();
    try (StandardJavaFileManager files = compiler.getStandardFileManager(null, null, null)) {
      JavacTask task = (JavacTask) compiler.getTask(null, files, null, List.of("-proc:none"), null,
          files.getJavaFileObjects(SOURCE));
      CompilationUnitTree unit = task.parse().iterator().next();
      task.analyze();
      Reader reader = new Reader(Trees.instance(task), unit);
      reader.scan(unit, null);
      return reader;
    }
  }

  /** Goes through the source and tells what the rules do not let. */
  private static final class Reader extends TreePathScanner<Void, Void> {
    final List<String> faults = new ArrayList<>();
    final Map<String, Set<String>> calls = new HashMap<>();
    int classes = 0;
    boolean isRecursive = false;
    private final Map<String, Integer> depths = new HashMap<>();
    private final Trees trees;
    private final CompilationUnitTree unit;
    private final Set<String> faceNames = new HashSet<>();
    private String inMethod = "";
    private boolean isConstructor = false;

    Reader(Trees trees, CompilationUnitTree unit) {
      this.trees = trees;
      this.unit = unit;
      if (unit.getPackage() != null || !unit.getImports().isEmpty() || unit.getTypeDecls().size() != 1) {
        faults.add("a package, an import or a second class");
      }
      for (Method each : Syndromehouse.class.getDeclaredMethods()) {
        if (Modifier.isPublic(each.getModifiers())) {
          faceNames.add(each.getName());
        }
      }
    }

    private void fault(Tree tree, String what) {
      long at = trees.getSourcePositions().getStartPosition(unit, tree);
      faults.add("line " + unit.getLineMap().getLineNumber(at) + ": " + what);
    }

    private long lines(Tree tree) {
      return unit.getLineMap().getLineNumber(trees.getSourcePositions().getEndPosition(unit, tree))
          - unit.getLineMap().getLineNumber(trees.getSourcePositions().getStartPosition(unit, tree)) + 1;
    }

    int depth(String method, Set<String> open) {
      if (depths.containsKey(method)) {
        return depths.get(method);
      }
      if (!open.add(method)) {
        isRecursive = true;
        return 99;
      }
      int deepest = 0;
      for (String each : calls.getOrDefault(method, Set.of())) {
        deepest = Math.max(deepest, depth(each, open));
      }
      open.remove(method);
      depths.put(method, deepest + 1);
      return deepest + 1;
    }

    private void call(Tree at, Element called) {
      if (!(called instanceof ExecutableElement)) {
        fault(at, "a call of what is not known");
        return;
      }
      String name = called.getEnclosingElement() + "." + called;
      boolean isOwn = name.startsWith("Syndromehouse");
      if (!isOwn && !LIBRARY.contains(name) && called.getKind() != ElementKind.CONSTRUCTOR) {
        fault(at, "a call of " + name);
      }
      // An initialiser of a field runs in the constructor of its class.
      calls.computeIfAbsent(inMethod, key -> new HashSet<>()).add(name);
    }

    @Override
    public Void visitClass(ClassTree tree, Void none) {
      classes++;
      Element element = trees.getElement(getCurrentPath());
      int fields = 0;
      for (Tree member : tree.getMembers()) {
        if (member.getKind() == Tree.Kind.BLOCK) {
          fault(member, "an initialiser block");
        }
        fields += member.getKind() == Tree.Kind.VARIABLE ? 1 : 0;
      }
      if (fields > 20) {
        fault(tree, "more than twenty fields");
      }
      if (element.getEnclosingElement().getKind() == ElementKind.METHOD) {
        fault(tree, "a local class");
      }
      String before = inMethod;
      boolean wasConstructor = isConstructor;
      inMethod = element + "." + tree.getSimpleName() + "()";
      isConstructor = true;
      super.visitClass(tree, none);
      inMethod = before;
      isConstructor = wasConstructor;
      return null;
    }

    @Override
    public Void visitMethod(MethodTree tree, Void none) {
      ExecutableElement element = (ExecutableElement) trees.getElement(getCurrentPath());
      Set<javax.lang.model.element.Modifier> modifiers = element.getModifiers();
      if (faceNames.contains(tree.getName().toString()) && !modifiers.contains(javax.lang.model.element.Modifier.PUBLIC)) {
        fault(tree, "a method that bears the name of a public one");
      }
      if (tree.getParameters().size() > 7 || lines(tree) > 60) {
        fault(tree, "a method too long");
      }
      String before = inMethod;
      boolean wasConstructor = isConstructor;
      inMethod = element.getEnclosingElement() + "." + element;
      isConstructor = element.getKind() == ElementKind.CONSTRUCTOR;
      super.visitMethod(tree, none);
      inMethod = before;
      isConstructor = wasConstructor;
      return null;
    }

    @Override
    public Void visitVariable(VariableTree tree, Void none) {
      Element element = trees.getElement(getCurrentPath());
      Set<javax.lang.model.element.Modifier> modifiers = element.getModifiers();
      if (modifiers.contains(javax.lang.model.element.Modifier.STATIC)
          && !modifiers.contains(javax.lang.model.element.Modifier.FINAL)) {
        fault(tree, "a static field that changes");
      }
      return super.visitVariable(tree, none);
    }

    @Override
    public Void visitMethodInvocation(MethodInvocationTree tree, Void none) {
      call(tree, trees.getElement(getCurrentPath()));
      return super.visitMethodInvocation(tree, none);
    }

    @Override
    public Void visitNewClass(NewClassTree tree, Void none) {
      Element made = trees.getElement(getCurrentPath());
      String name = made.getEnclosingElement().toString();
      call(tree, made);
      boolean isText = name.equals("java.lang.StringBuilder") && tree.getArguments().isEmpty();
      boolean isThrown = THROWN.contains(name);
      if (!isText && !isThrown && !(isConstructor && name.startsWith("Syndromehouse"))) {
        fault(tree, "an object that is made outside a constructor: " + name);
      }
      return super.visitNewClass(tree, none);
    }

    @Override
    public Void visitNewArray(NewArrayTree tree, Void none) {
      if (!isConstructor) {
        fault(tree, "an array that is made outside a constructor");
      }
      return super.visitNewArray(tree, none);
    }

    @Override
    public Void visitThrow(ThrowTree tree, Void none) {
      if (isConstructor || tree.getExpression().getKind() != Tree.Kind.NEW_CLASS) {
        fault(tree, "a throw");
      }
      return super.visitThrow(tree, none);
    }

    @Override
    public Void visitMemberSelect(MemberSelectTree tree, Void none) {
      outside(tree, trees.getElement(getCurrentPath()));
      return super.visitMemberSelect(tree, none);
    }

    @Override
    public Void visitIdentifier(IdentifierTree tree, Void none) {
      outside(tree, trees.getElement(getCurrentPath()));
      return super.visitIdentifier(tree, none);
    }

    private void outside(Tree tree, Element element) {
      if (element != null && element.getKind() == ElementKind.FIELD && !element.getSimpleName().contentEquals("length")
          && !element.getSimpleName().contentEquals("this")
          && !element.getEnclosingElement().toString().startsWith("Syndromehouse")) {
        fault(tree, "a field of the library: " + element);
      }
    }

    @Override
    public Void visitBinary(BinaryTree tree, Void none) {
      if (String.valueOf(trees.getTypeMirror(getCurrentPath())).equals("java.lang.String")) {
        fault(tree, "a text joined by +");
      }
      return super.visitBinary(tree, none);
    }

    @Override
    public Void visitCompoundAssignment(CompoundAssignmentTree tree, Void none) {
      if (String.valueOf(trees.getTypeMirror(getCurrentPath())).equals("java.lang.String")) {
        fault(tree, "a text joined by +=");
      }
      return super.visitCompoundAssignment(tree, none);
    }

    @Override
    public Void visitTypeCast(TypeCastTree tree, Void none) {
      if (tree.getType().getKind() != Tree.Kind.PRIMITIVE_TYPE) {
        fault(tree, "a cast of an object");
      }
      return super.visitTypeCast(tree, none);
    }

    @Override
    public Void visitLambdaExpression(LambdaExpressionTree tree, Void none) {
      fault(tree, "a lambda");
      return super.visitLambdaExpression(tree, none);
    }

    @Override
    public Void visitMemberReference(MemberReferenceTree tree, Void none) {
      fault(tree, "a method reference");
      return super.visitMemberReference(tree, none);
    }

    @Override
    public Void visitTry(TryTree tree, Void none) {
      fault(tree, "a try that the program does not need");
      return super.visitTry(tree, none);
    }

    @Override
    public Void visitSynchronized(SynchronizedTree tree, Void none) {
      fault(tree, "synchronized");
      return super.visitSynchronized(tree, none);
    }

    @Override
    public Void visitAssert(AssertTree tree, Void none) {
      fault(tree, "assert");
      return super.visitAssert(tree, none);
    }

    @Override
    public Void visitInstanceOf(InstanceOfTree tree, Void none) {
      fault(tree, "instanceof");
      return super.visitInstanceOf(tree, none);
    }
  }
}
