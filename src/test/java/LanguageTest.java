import com.sun.source.tree.BinaryTree;
import com.sun.source.tree.ClassTree;
import com.sun.source.tree.CompilationUnitTree;
import com.sun.source.tree.ForLoopTree;
import com.sun.source.tree.LiteralTree;
import com.sun.source.tree.MethodInvocationTree;
import com.sun.source.tree.MethodTree;
import com.sun.source.tree.NewClassTree;
import com.sun.source.tree.ThrowTree;
import com.sun.source.tree.Tree;
import com.sun.source.tree.VariableTree;
import com.sun.source.util.JavacTask;
import com.sun.source.util.TreePathScanner;
import com.sun.source.util.Trees;
import java.io.IOException;
import java.lang.reflect.Member;
import java.lang.reflect.Modifier;
import java.nio.file.Files;
import java.nio.file.Path;
import java.util.ArrayList;
import java.util.HashMap;
import java.util.HashSet;
import java.util.List;
import java.util.Map;
import java.util.Set;
import java.util.TreeMap;
import java.util.TreeSet;
import javax.lang.model.element.Element;
import javax.lang.model.element.VariableElement;
import javax.lang.model.type.TypeKind;
import javax.lang.model.type.TypeMirror;
import javax.tools.JavaCompiler;
import javax.tools.StandardJavaFileManager;
import javax.tools.ToolProvider;

/** The face of the document, and the rules of LANGUAGE.md as far as a program can read them. */
public final class LanguageTest {
  private static final String SOURCE = "src/main/java/Buildkeeper.java";
  private static final String DOCUMENT = "../shared/DOC.md";
  /** The constructor and 49 methods. */
  private static final int FACE_SIZE = 50;

  /** Rule 4, as much of it as the class needs. */
  private static final Set<String> LIBRARY = Set.of("java.lang.StringBuilder.append", "java.lang.StringBuilder.toString",
      "java.lang.StringBuilder.<init>", "java.lang.Math.min", "java.lang.Math.max", "java.lang.System.arraycopy",
      "java.util.Arrays.fill", "java.lang.Object.<init>", "java.lang.IllegalStateException.<init>",
      "java.lang.IllegalArgumentException.<init>", "java.lang.IndexOutOfBoundsException.<init>");
  /** Rules 2, 6 and 10: what stands nowhere; and what is allowed with care, but the class does without. */
  private static final Set<Tree.Kind> FORBIDDEN = Set.of(Tree.Kind.LAMBDA_EXPRESSION, Tree.Kind.MEMBER_REFERENCE,
      Tree.Kind.SYNCHRONIZED, Tree.Kind.ASSERT, Tree.Kind.TRY, Tree.Kind.CATCH, Tree.Kind.SWITCH_EXPRESSION,
      Tree.Kind.TYPE_CAST, Tree.Kind.INSTANCE_OF, Tree.Kind.WHILE_LOOP, Tree.Kind.DO_WHILE_LOOP);
  private static final Set<String> OTHER_TYPES = Set.of("java.lang.String", "java.lang.StringBuilder");

  private static final Set<String> faults = new TreeSet<>();
  /** Which methods a method calls, by their names with their classes. */
  private static final Map<String, Set<String>> calls = new TreeMap<>();
  private static final Map<String, Integer> depths = new HashMap<>();

  public static void main(String[] args) throws IOException {
    if (Files.exists(Path.of(DOCUMENT))) {
      theFaceStands(readFace());
    } else {
      System.out.println("no document here: the face is not compared with it");
    }
    nothingElseIsOpen();
    readSource();
    for (String method : calls.keySet()) {
      depthOf(method, new HashSet<>());
    }
    Check.is(String.join("\n", faults), "");
    Check.end();
  }

  private static void fault(int rule, String where, String what) {
    faults.add("rule " + rule + ", " + where + ": " + what);
  }

  // ---- rule 1

  /** The lines of the first block of code of the document that begin with public, but for that of the class. */
  private static List<String> readFace() throws IOException {
    List<String> face = new ArrayList<>();
    boolean isCode = false;
    for (String line : Files.readAllLines(Path.of(DOCUMENT))) {
      if (line.startsWith("```")) {
        if (isCode) {
          return face;
        }
        isCode = true;
      } else if (isCode && line.startsWith("    public ")) {
        face.add(line.trim());
      }
    }
    return face;
  }

  private static void theFaceStands(List<String> face) throws IOException {
    String source = Files.readString(Path.of(SOURCE));
    Check.is(face.size(), FACE_SIZE);
    for (String line : face) {
      if (!source.contains("\n  " + line.substring(0, line.length() - 1) + " {\n")) {
        fault(1, "face", line);
      }
    }
  }

  private static void nothingElseIsOpen() {
    Set<String> names = new HashSet<>();
    List<Member> hidden = new ArrayList<>();
    int open = 0;
    List<Member> members = new ArrayList<>(List.of(Buildkeeper.class.getDeclaredMethods()));
    members.addAll(List.of(Buildkeeper.class.getDeclaredConstructors()));
    members.addAll(List.of(Buildkeeper.class.getDeclaredFields()));
    for (Member member : members) {
      if (Modifier.isPublic(member.getModifiers())) {
        open++;
        names.add(member.getName());
      } else if (!Modifier.isPrivate(member.getModifiers())) {
        fault(1, member.getName(), "neither public nor private");
      } else {
        hidden.add(member);
      }
    }
    Check.is(open, FACE_SIZE);
    for (Member member : hidden) {
      if (member instanceof java.lang.reflect.Method && names.contains(member.getName())) {
        fault(1, member.getName(), "a private method with a public one's name");
      }
    }
    for (Class<?> inner : Buildkeeper.class.getDeclaredClasses()) {
      int is = inner.getModifiers();
      if (!Modifier.isStatic(is) || Modifier.isPublic(is) || Modifier.isProtected(is)) {
        fault(2, inner.getSimpleName(), "not static, or open to all");
      }
    }
  }

  // ---- rules 2 to 6 and 9 to 12

  private static void readSource() throws IOException {
    JavaCompiler compiler = ToolProvider.getSystemJavaCompiler();
    try (StandardJavaFileManager files = compiler.getStandardFileManager(null, null, null)) {
      JavacTask task = (JavacTask) compiler.getTask(null, files, null, List.of("-proc:none"), null, files.getJavaFileObjects(SOURCE));
      CompilationUnitTree unit = task.parse().iterator().next();
      task.analyze();
      Reader reader = new Reader(unit, Trees.instance(task));
      reader.scan(unit, null);
      if (reader.classes > 12) {
        fault(11, "file", reader.classes + " classes");
      }
    }
  }

  /** Goes through the source; what is carried along is the method that stands open. */
  private static final class Reader extends TreePathScanner<Void, String> {
    private final CompilationUnitTree unit;
    private final Trees trees;
    private int classes = 0;

    Reader(CompilationUnitTree unit, Trees trees) {
      this.unit = unit;
      this.trees = trees;
    }

    private long lineOf(long position) {
      return unit.getLineMap().getLineNumber(position);
    }

    private String where(Tree tree) {
      return "line " + lineOf(trees.getSourcePositions().getStartPosition(unit, tree));
    }

    @Override
    public Void scan(Tree tree, String method) {
      if (tree != null && FORBIDDEN.contains(tree.getKind())) {
        fault(6, where(tree), tree.getKind().toString());
      }
      return super.scan(tree, method);
    }

    @Override
    public Void visitClass(ClassTree tree, String method) {
      classes++;
      int fields = 0;
      for (Tree member : tree.getMembers()) {
        boolean isField = member instanceof VariableTree;
        fields += isField && !isStatic((VariableTree) member) ? 1 : 0;
      }
      if (fields > 20) {
        fault(11, tree.getSimpleName().toString(), fields + " fields");
      }
      return super.visitClass(tree, method);
    }

    private static boolean isStatic(VariableTree tree) {
      return tree.getModifiers().getFlags().contains(javax.lang.model.element.Modifier.STATIC);
    }

    @Override
    public Void visitVariable(VariableTree tree, String method) {
      VariableElement element = (VariableElement) trees.getElement(getCurrentPath());
      if (isStatic(tree) && element.getConstantValue() == null) {
        fault(5, where(tree), "a static field that is no constant");
      }
      checkType(element.asType(), tree);
      return super.visitVariable(tree, method);
    }

    private void checkType(TypeMirror type, Tree tree) {
      String name = type.toString().replace("[]", "");
      boolean isNumber = type.getKind().isPrimitive() || name.matches("int|long|boolean|char");
      if (!isNumber && !name.startsWith("Buildkeeper") && !OTHER_TYPES.contains(name)) {
        fault(3, where(tree), name);
      }
    }

    @Override
    public Void visitMethod(MethodTree tree, String outer) {
      String method = nameOf(trees.getElement(getCurrentPath()));
      calls.computeIfAbsent(method, key -> new TreeSet<>());
      long end = trees.getSourcePositions().getEndPosition(unit, tree);
      long lines = lineOf(end) - lineOf(trees.getSourcePositions().getStartPosition(unit, tree)) + 1;
      if (lines > 60) {
        fault(11, method, lines + " lines");
      }
      if (tree.getParameters().size() > 7) {
        fault(11, method, tree.getParameters().size() + " parameters");
      }
      return super.visitMethod(tree, method);
    }

    @Override
    public Void visitMethodInvocation(MethodInvocationTree tree, String method) {
      addCall(trees.getElement(getCurrentPath()), tree, method);
      return super.visitMethodInvocation(tree, method);
    }

    @Override
    public Void visitNewClass(NewClassTree tree, String method) {
      addCall(trees.getElement(getCurrentPath()), tree, method);
      return super.visitNewClass(tree, method);
    }

    private void addCall(Element called, Tree tree, String method) {
      Element owner = called.getEnclosingElement();
      if (!owner.toString().startsWith("Buildkeeper")) {
        if (!LIBRARY.contains(owner + "." + called.getSimpleName())) {
          fault(4, where(tree), owner + "." + called.getSimpleName());
        }
      } else if (method != null) {
        calls.computeIfAbsent(method, key -> new TreeSet<>()).add(nameOf(called));
      }
    }

    private static String nameOf(Element method) {
      return method.getEnclosingElement().getSimpleName() + "." + method;
    }

    @Override
    public Void visitThrow(ThrowTree tree, String method) {
      if (!(tree.getExpression() instanceof NewClassTree) || method.matches("(\\w+)\\.\\1\\(.*")) {
        fault(6, where(tree), "a throw of something else, or in a constructor");
      }
      return super.visitThrow(tree, method);
    }

    @Override
    public Void visitForLoop(ForLoopTree tree, String method) {
      if (tree.getCondition() == null || tree.getUpdate().size() != 1) {
        fault(9, where(tree), "a loop without an end that can be seen");
      }
      return super.visitForLoop(tree, method);
    }

    @Override
    public Void visitBinary(BinaryTree tree, String method) {
      TypeMirror type = trees.getTypeMirror(getCurrentPath());
      if (type.getKind() == TypeKind.DECLARED) {
        fault(10, where(tree), "texts joined by +");
      }
      return super.visitBinary(tree, method);
    }

    @Override
    public Void visitLiteral(LiteralTree tree, String method) {
      if (tree.getValue() instanceof String text && !text.chars().allMatch(sign -> sign >= 1 && sign <= 127)) {
        fault(4, where(tree), "another sign");
      }
      return super.visitLiteral(tree, method);
    }
  }

  // ---- rules 8 and 11

  /** How many calls stand open at most, with this one; a method that comes to itself is a fault. */
  private static int depthOf(String method, Set<String> open) {
    if (depths.containsKey(method)) {
      return depths.get(method);
    }
    if (!open.add(method)) {
      fault(8, method, "calls itself");
      return 1;
    }
    int most = 0;
    for (String called : calls.getOrDefault(method, Set.of())) {
      most = Math.max(most, depthOf(called, open));
    }
    open.remove(method);
    depths.put(method, most + 1);
    if (most + 1 > 8) {
      fault(11, method, most + 1 + " calls deep");
    }
    return most + 1;
  }
}
