import com.sun.source.tree.AnnotationTree;
import com.sun.source.tree.BinaryTree;
import com.sun.source.tree.ClassTree;
import com.sun.source.tree.CompilationUnitTree;
import com.sun.source.tree.EnhancedForLoopTree;
import com.sun.source.tree.MethodInvocationTree;
import com.sun.source.tree.MethodTree;
import com.sun.source.tree.NewClassTree;
import com.sun.source.tree.ThrowTree;
import com.sun.source.tree.Tree;
import com.sun.source.tree.VariableTree;
import com.sun.source.util.JavacTask;
import com.sun.source.util.TreePathScanner;
import com.sun.source.util.Trees;
import java.nio.file.Files;
import java.nio.file.Path;
import java.util.EnumSet;
import java.util.HashMap;
import java.util.HashSet;
import java.util.List;
import java.util.Map;
import java.util.Set;
import java.util.TreeSet;
import java.util.regex.Matcher;
import java.util.regex.Pattern;
import javax.lang.model.element.Element;
import javax.lang.model.element.ElementKind;
import javax.lang.model.element.ExecutableElement;
import javax.lang.model.element.Modifier;
import javax.lang.model.element.TypeElement;
import javax.lang.model.element.VariableElement;
import javax.lang.model.type.TypeKind;
import javax.tools.JavaCompiler;
import javax.tools.StandardJavaFileManager;
import javax.tools.ToolProvider;

/** Rules of LANGUAGE.md that can be read off the source, and the face that the document tells. */
public final class LanguageTest {
  private static final Path SOURCE = Path.of("src/main/java/Pathwright.java");
  private static final Path DOCUMENT = Path.of("../shared/DOC.md");

  private static final Set<Tree.Kind> FORBIDDEN = EnumSet.of(
      Tree.Kind.LAMBDA_EXPRESSION, Tree.Kind.MEMBER_REFERENCE, Tree.Kind.TRY, Tree.Kind.CATCH,
      Tree.Kind.SYNCHRONIZED, Tree.Kind.ASSERT, Tree.Kind.ENHANCED_FOR_LOOP);

  private static final Set<String> LIBRARY = Set.of(
      "String.length", "String.charAt", "String.isEmpty", "String.indexOf", "String.substring",
      "StringBuilder.append", "StringBuilder.charAt", "StringBuilder.setLength",
      "StringBuilder.length", "Long.bitCount", "Math.max", "Math.min", "Math.abs",
      "System.arraycopy", "Arrays.copyOf", "Arrays.fill");

  private static final Set<String> MADE = Set.of("StringBuilder", "IndexOutOfBoundsException",
      "IllegalArgumentException", "IllegalStateException", "NoSuchElementException");

  private static int wrong;

  private final Trees trees;
  private final CompilationUnitTree unit;
  private final Map<ExecutableElement, Set<ExecutableElement>> calls = new HashMap<>();
  private final Set<TypeElement> classes = new HashSet<>();
  private final Set<ExecutableElement> methods = new HashSet<>();

  private LanguageTest(Trees trees, CompilationUnitTree unit) {
    this.trees = trees;
    this.unit = unit;
  }

  public static void main(String[] args) throws Exception {
    JavaCompiler compiler = ToolProvider.getSystemJavaCompiler();
    StandardJavaFileManager files = compiler.getStandardFileManager(null, null, null);
    JavacTask task = (JavacTask) compiler.getTask(null, files, null, List.of("-proc:none"), null,
        files.getJavaFileObjects(SOURCE));
    CompilationUnitTree unit = task.parse().iterator().next();
    task.analyze();
    LanguageTest test = new LanguageTest(Trees.instance(task), unit);
    test.readAll();
    test.face();
    test.classesAndFields();
    test.depth();
    test.letters();
    test.sections();
    System.out.println(wrong == 0 ? "the language is kept" : wrong + " rules are broken");
    System.exit(wrong == 0 ? 0 : 1);
  }

  private static void must(boolean isSo, String what) {
    if (!isSo) {
      wrong++;
      System.out.println(what);
    }
  }

  // ---- what stands in the source

  private void readAll() {
    must(unit.getTypeDecls().size() == 1, "1: one class in the file");
    must(unit.getPackageName() == null, "1: no package");
    new Reader().scan(unit, null);
  }

  private final class Reader extends TreePathScanner<Void, Void> {
    private ExecutableElement inside;

    private Element element() {
      return trees.getElement(getCurrentPath());
    }

    private String place(Tree tree) {
      long at = trees.getSourcePositions().getStartPosition(unit, tree);
      return "line " + unit.getLineMap().getLineNumber(at);
    }

    @Override
    public Void scan(Tree tree, Void none) {
      if (tree != null) {
        must(!FORBIDDEN.contains(tree.getKind()), "6: " + tree.getKind() + " in " + place(tree));
      }
      return super.scan(tree, none);
    }

    @Override
    public Void visitAnnotation(AnnotationTree tree, Void none) {
      must(false, "4: an annotation in " + place(tree));
      return null;
    }

    @Override
    public Void visitEnhancedForLoop(EnhancedForLoopTree tree, Void none) {
      return super.visitEnhancedForLoop(tree, none);
    }

    @Override
    public Void visitClass(ClassTree tree, Void none) {
      TypeElement type = (TypeElement) element();
      classes.add(type);
      boolean isOuter = type.getEnclosingElement().getKind() == ElementKind.PACKAGE;
      must(isOuter || type.getModifiers().contains(Modifier.STATIC),
          "2: " + type + " is not static");
      must(isOuter || type.getModifiers().contains(Modifier.PRIVATE), "1: " + type);
      return super.visitClass(tree, none);
    }

    @Override
    public Void visitMethod(MethodTree tree, Void none) {
      inside = (ExecutableElement) element();
      methods.add(inside);
      calls.put(inside, new HashSet<>());
      must(tree.getParameters().size() <= 7, "11: parameters of " + inside);
      long from = trees.getSourcePositions().getStartPosition(unit, tree);
      long to = trees.getSourcePositions().getEndPosition(unit, tree);
      long lines = to < 0 ? 0
          : unit.getLineMap().getLineNumber(to) - unit.getLineMap().getLineNumber(from) + 1;
      must(lines <= 65, "11: " + inside + " has " + lines + " lines");
      super.visitMethod(tree, none);
      inside = null;
      return null;
    }

    @Override
    public Void visitMethodInvocation(MethodInvocationTree tree, Void none) {
      note((ExecutableElement) element(), tree);
      return super.visitMethodInvocation(tree, none);
    }

    @Override
    public Void visitNewClass(NewClassTree tree, Void none) {
      ExecutableElement made = (ExecutableElement) element();
      String name = made.getEnclosingElement().getSimpleName().toString();
      must(isOwn(made) || MADE.contains(name), "4: new " + name + " in " + place(tree));
      must(tree.getClassBody() == null, "2: an anonymous class in " + place(tree));
      if (isOwn(made) && inside != null) {
        calls.get(inside).add(made);
        must(inside.getKind() == ElementKind.CONSTRUCTOR, "12: new " + name + " in " + inside);
      }
      return super.visitNewClass(tree, none);
    }

    @Override
    public Void visitThrow(ThrowTree tree, Void none) {
      must(tree.getExpression() instanceof NewClassTree, "6: throw in " + place(tree));
      must(inside.getSimpleName().toString().startsWith("require"), "6: throw in " + place(tree));
      return super.visitThrow(tree, none);
    }

    @Override
    public Void visitBinary(BinaryTree tree, Void none) {
      boolean isText = trees.getTypeMirror(getCurrentPath()).getKind() == TypeKind.DECLARED;
      must(!isText, "10: texts joined by + in " + place(tree));
      return super.visitBinary(tree, none);
    }

    @Override
    public Void visitVariable(VariableTree tree, Void none) {
      VariableElement v = (VariableElement) element();
      if (v.getKind() == ElementKind.FIELD && v.getModifiers().contains(Modifier.STATIC)) {
        must(v.getConstantValue() != null, "5: " + v + " is no constant");
      }
      must(v.asType().getKind() != TypeKind.DOUBLE && v.asType().getKind() != TypeKind.FLOAT,
          "3: " + v);
      return super.visitVariable(tree, none);
    }

    private void note(ExecutableElement called, Tree tree) {
      String owner = called.getEnclosingElement().getSimpleName().toString();
      owner = owner.equals("AbstractStringBuilder") ? "StringBuilder" : owner;
      String name = owner + "." + called.getSimpleName();
      boolean isSuper = called.getSimpleName().contentEquals("<init>");
      must(isSuper || isOwn(called) || LIBRARY.contains(name),
          "4: " + name + " in " + place(tree));
      if (isOwn(called) && inside != null) {
        calls.get(inside).add(called);
      }
    }
  }

  private static boolean isOwn(Element element) {
    for (Element e = element; e != null; e = e.getEnclosingElement()) {
      if (e.getSimpleName().contentEquals("Pathwright")) {
        return true;
      }
    }
    return false;
  }

  // ---- the face

  private void face() throws Exception {
    Set<String> due = new TreeSet<>();
    Matcher block = Pattern.compile("```java(.*?)```", Pattern.DOTALL)
        .matcher(Files.readString(DOCUMENT));
    must(block.find(), "the document tells a face");
    Matcher method = Pattern.compile("public ((?:\\w+ )?\\w+\\([^)]*\\)[^;]*);")
        .matcher(block.group(1));
    while (method.find()) {
      due.add(method.group(1).replaceAll("\\s+", " ").trim());
    }
    Set<String> got = new TreeSet<>();
    Set<String> names = new HashSet<>();
    for (ExecutableElement m : methods) {
      if (m.getEnclosingElement().getSimpleName().contentEquals("Pathwright")) {
        boolean isPublic = m.getModifiers().contains(Modifier.PUBLIC);
        must(isPublic || m.getModifiers().contains(Modifier.PRIVATE), "1: " + m + " is private");
        if (isPublic) {
          got.add(told(m));
          names.add(m.getSimpleName().toString());
        }
      }
    }
    must(got.equals(due), "1: the face is\n" + String.join("\n", got) + "\nbut due is\n"
        + String.join("\n", due));
    for (ExecutableElement m : methods) {
      boolean isFace = m.getModifiers().contains(Modifier.PUBLIC);
      must(isFace || !names.contains(m.getSimpleName().toString())
          || m.getKind() == ElementKind.CONSTRUCTOR, "1: the name of " + m);
    }
  }

  private static String told(ExecutableElement m) {
    StringBuilder text = new StringBuilder();
    boolean isMaker = m.getKind() == ElementKind.CONSTRUCTOR;
    text.append(isMaker ? "Pathwright" : m.getReturnType() + " " + m.getSimpleName()).append('(');
    String between = "";
    for (VariableElement v : m.getParameters()) {
      text.append(between).append(v.asType()).append(' ').append(v);
      between = ", ";
    }
    text.append(')');
    between = " throws ";
    for (Object thrown : m.getThrownTypes()) {
      String name = thrown.toString();
      text.append(between).append(name.substring(name.lastIndexOf('.') + 1));
      between = ", ";
    }
    return text.toString();
  }

  // ---- sizes

  private void classesAndFields() {
    must(classes.size() <= 12, "11: " + classes.size() + " classes");
    for (TypeElement type : classes) {
      int fields = 0;
      for (Element e : type.getEnclosedElements()) {
        boolean isStatic = e.getModifiers().contains(Modifier.STATIC);
        if (e.getKind() == ElementKind.FIELD && !isStatic) {
          fields++;
          boolean isOuter = type.getSimpleName().contentEquals("Pathwright");
          must(!isOuter || e.getModifiers().contains(Modifier.PRIVATE), "1: field " + e);
        }
        must(e.getKind() != ElementKind.STATIC_INIT, "5: a static block in " + type);
      }
      must(fields <= 20, "11: " + type + " has " + fields + " fields");
    }
  }

  private void depth() {
    int most = 0;
    for (ExecutableElement m : methods) {
      most = Math.max(most, depthOf(m, new HashSet<>(), new HashMap<>()));
    }
    must(most <= 8, "11: calls go " + most + " deep");
    for (ExecutableElement m : methods) {
      if (depthOf(m, new HashSet<>(), new HashMap<>()) > 8) {
        System.out.println("  " + chainOf(m));
      }
    }
  }

  private int depthOf(ExecutableElement m, Set<ExecutableElement> open,
      Map<ExecutableElement, Integer> known) {
    if (known.containsKey(m)) {
      return known.get(m);
    }
    must(open.add(m), "8: " + m + " calls itself");
    int deepest = 0;
    if (open.size() < 60) {
      for (ExecutableElement called : calls.getOrDefault(m, Set.of())) {
        for (ExecutableElement meant : meantBy(called)) {
          deepest = Math.max(deepest, depthOf(meant, open, known));
        }
      }
    }
    open.remove(m);
    known.put(m, deepest + 1);
    return deepest + 1;
  }

  private String chainOf(ExecutableElement m) {
    ExecutableElement deepest = null;
    int most = 0;
    for (ExecutableElement called : calls.getOrDefault(m, Set.of())) {
      for (ExecutableElement meant : meantBy(called)) {
        int depth = depthOf(meant, new HashSet<>(), new HashMap<>());
        if (depth > most) {
          most = depth;
          deepest = meant;
        }
      }
    }
    return m.getSimpleName() + (deepest == null ? "" : " -> " + chainOf(deepest));
  }

  /** The method itself, or, of one that is abstract, all that stand for it. */
  private Set<ExecutableElement> meantBy(ExecutableElement called) {
    if (!called.getModifiers().contains(Modifier.ABSTRACT)) {
      return Set.of(called);
    }
    Set<ExecutableElement> all = new HashSet<>();
    for (ExecutableElement m : methods) {
      if (m.getSimpleName().equals(called.getSimpleName())
          && !m.getModifiers().contains(Modifier.ABSTRACT)) {
        all.add(m);
      }
    }
    return all;
  }

  private void letters() throws Exception {
    for (char letter : Files.readString(SOURCE).toCharArray()) {
      must(letter < 127, "3: the letter " + (int) letter);
    }
  }

  /** Ahead of the calls stands what the interface says there, and they come in its order. */
  private void sections() throws Exception {
    String source = Files.readString(SOURCE);
    int at = 0;
    for (Map.Entry<String, List<String>> part : Document.read().calls.entrySet()) {
      int head = source.indexOf("// ---- " + part.getKey() + "\n", at);
      must(head >= at, "ahead of its calls stands: " + part.getKey());
      at = Math.max(at, head);
      for (String call : part.getValue()) {
        Matcher next = Pattern.compile("\n  public \\w+ " + call + "\\(").matcher(source);
        boolean isThere = next.find(at);
        must(isThere, call + " stands below " + part.getKey() + ", in its order");
        at = isThere ? next.start() : at;
      }
    }
  }
}
