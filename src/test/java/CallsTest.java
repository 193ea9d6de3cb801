import com.sun.source.tree.BinaryTree;
import com.sun.source.tree.ClassTree;
import com.sun.source.tree.CompilationUnitTree;
import com.sun.source.tree.CompoundAssignmentTree;
import com.sun.source.tree.MethodInvocationTree;
import com.sun.source.tree.MethodTree;
import com.sun.source.tree.NewClassTree;
import com.sun.source.tree.Tree;
import com.sun.source.util.JavacTask;
import com.sun.source.util.TreePath;
import com.sun.source.util.TreePathScanner;
import com.sun.source.util.Trees;
import java.io.IOException;
import java.nio.file.Path;
import java.util.HashMap;
import java.util.HashSet;
import java.util.Map;
import java.util.Set;
import java.util.TreeSet;
import javax.lang.model.element.Element;
import javax.lang.model.element.ExecutableElement;
import javax.lang.model.element.TypeElement;
import javax.lang.model.type.TypeMirror;
import javax.tools.JavaCompiler;
import javax.tools.StandardJavaFileManager;
import javax.tools.ToolProvider;

/** The program as the compiler reads it: which calls it makes, and how deep they go (rules 4, 8, 10, 11). */
public final class CallsTest {
  private static final Path SOURCE = Path.of("src", "main", "java", "DeadCap.java");
  private static final int MOST_DEEP = 8;
  /** Of rule 4 what such a program could use; a call of anything else is looked up there first. */
  private static final Set<String> LIBRARY = Set.of("java.lang.Math.min", "java.lang.Math.max", "java.lang.Math.abs", "java.lang.Math.floorDiv",
      "java.lang.Math.floorMod", "java.lang.Integer.bitCount", "java.lang.Integer.compare", "java.lang.Long.compare", "java.lang.System.arraycopy",
      "java.lang.String.charAt", "java.lang.String.length", "java.util.Arrays.fill", "java.util.Arrays.copyOf");

  private final Map<Element, Set<Element>> calls = new HashMap<>();
  private final Map<Element, Integer> depths = new HashMap<>();
  private final Set<String> library = new TreeSet<>();
  private final Set<String> joined = new TreeSet<>();
  private final Set<Element> open = new HashSet<>();
  private boolean recursive;

  public static void main(String[] args) throws IOException {
    CallsTest test = new CallsTest();
    test.read();
    test.libraryCalls();
    test.depth();
    Check.finish();
  }

  private void read() throws IOException {
    JavaCompiler compiler = ToolProvider.getSystemJavaCompiler();
    try (StandardJavaFileManager files = compiler.getStandardFileManager(null, null, null)) {
      JavacTask task = (JavacTask) compiler.getTask(null, files, null, null, null, files.getJavaFileObjects(SOURCE));
      Iterable<? extends CompilationUnitTree> units = task.parse();
      task.analyze();
      for (CompilationUnitTree unit : units) {
        new Reader(Trees.instance(task)).scan(unit, null);
      }
    }
  }

  private final class Reader extends TreePathScanner<Void, Element> {
    private final Trees trees;

    Reader(Trees trees) {
      this.trees = trees;
    }

    @Override
    public Void visitMethod(MethodTree tree, Element within) {
      Element method = trees.getElement(getCurrentPath());
      calls.computeIfAbsent(method, k -> new HashSet<>());
      return super.visitMethod(tree, method);
    }

    @Override
    public Void visitClass(ClassTree tree, Element within) {
      return super.visitClass(tree, null);
    }

    @Override
    public Void visitMethodInvocation(MethodInvocationTree tree, Element within) {
      called(trees.getElement(getCurrentPath()), within);
      return super.visitMethodInvocation(tree, within);
    }

    @Override
    public Void visitNewClass(NewClassTree tree, Element within) {
      called(trees.getElement(getCurrentPath()), within);
      return super.visitNewClass(tree, within);
    }

    private void called(Element method, Element within) {
      if (!(method instanceof ExecutableElement) || !(method.getEnclosingElement() instanceof TypeElement owner)) {
        return;
      }
      String name = owner.getQualifiedName().toString();
      if (name.startsWith("DeadCap")) {
        calls.computeIfAbsent(method, k -> new HashSet<>());
      } else if (!name.equals("java.lang.Object")) {
        library.add(name + "." + method.getSimpleName());
      }
      if (within != null && !name.equals("java.lang.Object")) {
        calls.computeIfAbsent(within, k -> new HashSet<>()).add(method);
      }
    }

    @Override
    public Void visitBinary(BinaryTree tree, Element within) {
      text(tree);
      return super.visitBinary(tree, within);
    }

    @Override
    public Void visitCompoundAssignment(CompoundAssignmentTree tree, Element within) {
      text(tree);
      return super.visitCompoundAssignment(tree, within);
    }

    private void text(Tree tree) {
      TypeMirror type = trees.getTypeMirror(new TreePath(getCurrentPath(), tree));
      if (type != null && type.toString().equals("java.lang.String")) {
        joined.add(tree.toString());
      }
    }
  }

  private void libraryCalls() {
    Check.part("rules 4 and 10");
    for (String name : library) {
      Check.due(name + " is of rule 4", LIBRARY.contains(name), true);
    }
    Check.due("texts joined by +: " + joined, joined.isEmpty(), true);
  }

  private void depth() {
    Check.part("rules 8 and 11");
    for (Element method : Set.copyOf(calls.keySet())) {
      int deep = depthOf(method);
      Check.due(method.getEnclosingElement() + "." + method + " goes " + deep + " deep", deep <= MOST_DEEP, true);
    }
    Check.due("a method that calls itself", recursive, false);
    Check.due("methods were seen", calls.size() > 100, true);
  }

  /** How many calls stand open at most, this one and the library's too. */
  private int depthOf(Element method) {
    Integer known = depths.get(method);
    if (known != null) {
      return known;
    }
    if (!open.add(method)) {
      recursive = true;
      return 0;
    }
    int deep = 0;
    for (Element next : calls.getOrDefault(method, Set.of())) {
      deep = Math.max(deep, depthOf(next));
    }
    open.remove(method);
    depths.put(method, deep + 1);
    return deep + 1;
  }
}
