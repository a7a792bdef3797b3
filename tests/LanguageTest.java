import com.sun.source.tree.AnnotationTree;
import com.sun.source.tree.ArrayTypeTree;
import com.sun.source.tree.AssertTree;
import com.sun.source.tree.BinaryTree;
import com.sun.source.tree.ClassTree;
import com.sun.source.tree.CompilationUnitTree;
import com.sun.source.tree.CompoundAssignmentTree;
import com.sun.source.tree.ImportTree;
import com.sun.source.tree.LambdaExpressionTree;
import com.sun.source.tree.MemberReferenceTree;
import com.sun.source.tree.MethodInvocationTree;
import com.sun.source.tree.MethodTree;
import com.sun.source.tree.NewArrayTree;
import com.sun.source.tree.NewClassTree;
import com.sun.source.tree.PackageTree;
import com.sun.source.tree.SwitchExpressionTree;
import com.sun.source.tree.SynchronizedTree;
import com.sun.source.tree.ThrowTree;
import com.sun.source.tree.Tree;
import com.sun.source.tree.TryTree;
import com.sun.source.tree.VariableTree;
import com.sun.source.util.JavacTask;
import com.sun.source.util.TreePathScanner;
import com.sun.source.util.Trees;
import java.io.File;
import java.util.ArrayList;
import java.util.HashMap;
import java.util.HashSet;
import java.util.List;
import java.util.Map;
import java.util.Set;
import java.util.TreeMap;
import java.util.TreeSet;
import javax.lang.model.element.Element;
import javax.lang.model.element.Modifier;
import javax.lang.model.type.TypeKind;
import javax.lang.model.type.TypeMirror;
import javax.tools.JavaCompiler;
import javax.tools.StandardJavaFileManager;
import javax.tools.ToolProvider;

/** Those rules of ../shared/LANGUAGE.md that can be counted in the program's text. */
public final class LanguageTest {
  private static final Set<String> LIBRARY = Set.of(
      "java.lang.String.length", "java.lang.String.charAt", "java.lang.System.arraycopy", "java.lang.Object.<init>");
  private static final Set<String> FACE = Set.of("set", "clear", "kind", "told", "value", "would", "taken", "feed",
      "formula", "table", "axis", "axisBy", "drop", "at", "blame", "adds", "asks", "seek", "swing", "chance", "film",
      "tells", "image", "back", "count", "row", "put", "item", "copy");

  private static CompilationUnitTree unit;
  private static Trees trees;
  private static final Map<String, Set<String>> calls = new TreeMap<>();
  private static final Set<String> hidden = new HashSet<>();
  private static final List<String> found = new ArrayList<>();

  private static void no(String rule, Tree where) {
    long line = unit.getLineMap().getLineNumber(trees.getSourcePositions().getStartPosition(unit, where));
    found.add("rule " + rule + ", line " + line);
  }

  private static final class Scan extends TreePathScanner<Void, Void> {
    private String method = "";
    private int classes = 0;

    private TypeMirror typeOf(Tree t) { return trees.getTypeMirror(new com.sun.source.util.TreePath(getCurrentPath(), t)); }

    private boolean isFraction(Tree t) {
      TypeMirror m = typeOf(t);
      return m != null && (m.getKind() == TypeKind.DOUBLE || m.getKind() == TypeKind.FLOAT);
    }

    private long lines(Tree t) {
      long from = unit.getLineMap().getLineNumber(trees.getSourcePositions().getStartPosition(unit, t));
      return unit.getLineMap().getLineNumber(trees.getSourcePositions().getEndPosition(unit, t)) - from + 1;
    }

    @Override public Void visitPackage(PackageTree t, Void v) { no("1: a package", t); return null; }
    @Override public Void visitImport(ImportTree t, Void v) { no("4: an import", t); return null; }
    @Override public Void visitLambdaExpression(LambdaExpressionTree t, Void v) { no("2: a lambda", t); return null; }
    @Override public Void visitMemberReference(MemberReferenceTree t, Void v) { no("2: a method reference", t); return null; }
    @Override public Void visitTry(TryTree t, Void v) { no("6: try", t); return null; }
    @Override public Void visitThrow(ThrowTree t, Void v) { no("6: throw, where no promise names one", t); return null; }
    @Override public Void visitAssert(AssertTree t, Void v) { no("6: assert", t); return null; }
    @Override public Void visitSynchronized(SynchronizedTree t, Void v) { no("6: synchronized", t); return null; }
    @Override public Void visitSwitchExpression(SwitchExpressionTree t, Void v) { no("6: a switch with patterns", t); return null; }
    @Override public Void visitAnnotation(AnnotationTree t, Void v) { no("4: an annotation", t); return null; }

    @Override public Void visitClass(ClassTree t, Void v) {
      classes++;
      boolean outer = t.getSimpleName().contentEquals("WhatIfSheet");
      Set<Modifier> has = t.getModifiers().getFlags();
      if (outer && !(has.contains(Modifier.PUBLIC) && has.contains(Modifier.FINAL))) no("1: not public and final", t);
      if (!outer && !(has.contains(Modifier.PRIVATE) && has.contains(Modifier.STATIC))) no("1: a class inside", t);
      if (classes > 12) no("11: more than twelve classes", t);
      int fields = 0;
      for (Tree m : t.getMembers()) {
        if (m.getKind() == Tree.Kind.BLOCK) no("5: an initialiser block", m);
        if (!(m instanceof VariableTree f)) continue;
        Set<Modifier> of = f.getModifiers().getFlags();
        if (!of.contains(Modifier.STATIC)) fields++;
        else checkStatic(f, of);
        if (outer && !of.contains(Modifier.PRIVATE) && !(of.contains(Modifier.PUBLIC) && of.contains(Modifier.FINAL))) no("1: a field", m);
      }
      if (fields > 20) no("11: more than twenty fields", t);
      return super.visitClass(t, v);
    }

    private void checkStatic(VariableTree f, Set<Modifier> of) {
      if (!of.contains(Modifier.FINAL)) no("5: static and not final", f);
      if (!Set.of("int", "long", "boolean", "char", "String", "int[]", "long[]", "char[]", "byte[]").contains(f.getType().toString())) {
        no("5: a static " + f.getType(), f);
      }
    }

    @Override public Void visitMethod(MethodTree t, Void v) {
      Element e = trees.getElement(getCurrentPath());
      method = e.getEnclosingElement() + "." + t.getName();
      calls.computeIfAbsent(method, k -> new TreeSet<>());
      if (t.getModifiers().getFlags().contains(Modifier.PRIVATE)) hidden.add(method);
      boolean face = FACE.contains(t.getName().toString());
      boolean outer = e.getEnclosingElement().toString().equals("WhatIfSheet");
      boolean open = t.getModifiers().getFlags().contains(Modifier.PUBLIC);
      if (outer && !t.getName().contentEquals("<init>") && face != open) no("1: " + t.getName(), t);
      if (!outer && (face || open)) no("1: " + t.getName(), t);
      if (outer && !open && !t.getModifiers().getFlags().contains(Modifier.PRIVATE)) no("1: seen from outside", t);
      if (t.getParameters().size() > 7) no("11: more than seven parameters", t);
      if (lines(t) > 60) no("11: more than sixty lines", t);
      if (Set.of("equals", "hashCode", "toString").contains(t.getName().toString())) no("6: " + t.getName(), t);
      return super.visitMethod(t, v);
    }

    @Override public Void visitMethodInvocation(MethodInvocationTree t, Void v) {
      Element e = trees.getElement(new com.sun.source.util.TreePath(getCurrentPath(), t.getMethodSelect()));
      String name = e.getEnclosingElement() + "." + e.getSimpleName();
      if (name.startsWith("WhatIfSheet")) calls.computeIfAbsent(method, k -> new TreeSet<>()).add(name);
      else if (!LIBRARY.contains(name)) no("4: " + name, t);
      return super.visitMethodInvocation(t, v);
    }

    @Override public Void visitNewClass(NewClassTree t, Void v) {
      if (!typeOf(t).toString().startsWith("WhatIfSheet")) no("4: new " + t.getIdentifier(), t);
      if (!method.endsWith(".<init>") && !method.isEmpty() && !inField()) no("12: an object outside a constructor", t);
      return super.visitNewClass(t, v);
    }

    @Override public Void visitNewArray(NewArrayTree t, Void v) {
      if (!method.endsWith(".<init>") && !method.isEmpty() && !inField()) no("12: an array outside a constructor", t);
      return super.visitNewArray(t, v);
    }

    private boolean inField() {
      for (var p = getCurrentPath(); p != null; p = p.getParentPath()) {
        if (p.getLeaf() instanceof MethodTree) return false;
        if (p.getLeaf() instanceof ClassTree) return true;
      }
      return true;
    }

    @Override public Void visitArrayType(ArrayTypeTree t, Void v) {
      if (t.getType() instanceof ArrayTypeTree && !Set.of("int[]", "double[]", "long[]").contains(t.getType().toString())) {
        no("3: an array of two dimensions", t);
      }
      return super.visitArrayType(t, v);
    }

    @Override public Void visitBinary(BinaryTree t, Void v) {
      boolean fraction = isFraction(t.getLeftOperand()) || isFraction(t.getRightOperand());
      if (t.getKind() == Tree.Kind.REMAINDER && fraction) no("3: % of doubles", t);
      TypeMirror m = typeOf(t);
      if (m != null && m.toString().equals("java.lang.String")) no("10: texts joined by +", t);
      return super.visitBinary(t, v);
    }

    @Override public Void visitCompoundAssignment(CompoundAssignmentTree t, Void v) {
      if (t.getKind() == Tree.Kind.REMAINDER_ASSIGNMENT && isFraction(t.getVariable())) no("3: % of doubles", t);
      return super.visitCompoundAssignment(t, v);
    }
  }

  /** Whether a method comes to call itself. */
  private static boolean recurs(String method) {
    Set<String> seen = new HashSet<>();
    List<String> next = new ArrayList<>(calls.getOrDefault(method, Set.of()));
    while (!next.isEmpty()) {
      String m = next.remove(next.size() - 1);
      if (m.equals(method)) return true;
      if (seen.add(m)) next.addAll(calls.getOrDefault(m, Set.of()));
    }
    return false;
  }

  /** How many methods that don't recur stand open at most from a method on, those that do being passed through. */
  private static int depth(String method, Set<String> on, Map<String, Integer> known) {
    if (known.containsKey(method)) return known.get(method);
    if (!on.add(method)) return 0;
    int most = 0;
    for (String m : calls.getOrDefault(method, Set.of())) most = Math.max(most, depth(m, on, known));
    on.remove(method);
    int all = most + (recurs(method) ? 0 : 1);
    if (on.isEmpty() || !recurs(method)) known.put(method, all);
    return all;
  }

  public static void main(String[] args) throws Exception {
    JavaCompiler javac = ToolProvider.getSystemJavaCompiler();
    StandardJavaFileManager files = javac.getStandardFileManager(null, null, null);
    JavacTask task = (JavacTask) javac.getTask(null, files, null, List.of("-proc:none"), null,
        files.getJavaFileObjects(new File("src/main/java/WhatIfSheet.java")));
    trees = Trees.instance(task);
    for (CompilationUnitTree u : task.parse()) unit = u;
    task.analyze();
    new Scan().scan(unit, null);
    Set<String> recurring = new TreeSet<>();
    Map<String, Integer> known = new HashMap<>();
    for (String m : calls.keySet()) {
      if (recurs(m)) recurring.add(m);
      if (recurs(m)) Check.due("rule 8: " + m + " recurs and is private", hidden.contains(m) ? 1 : 0, 1);
      Check.due("rule 11: calls from " + m + " on, at most eight deep", Math.max(8, depth(m, new HashSet<>(), known)), 8);
    }
    System.out.println("methods that recur: " + recurring);
    for (String f : found) Check.due(f, 1, 0);
    Check.due("the program was read", calls.size() > 30 ? 1 : 0, 1);
    for (char c : unit.getSourceFile().getCharContent(true).toString().toCharArray()) {
      if (c > 126 || c < 32 && c != '\n') Check.due("rule 4: a sign " + (int) c, 1, 0);
    }
    Check.end();
  }
}
