import java.nio.file.DirectoryStream;
import java.nio.file.Files;
import java.nio.file.Path;
import java.util.ArrayList;
import java.util.List;
import java.util.regex.Matcher;
import java.util.regex.Pattern;
import javax.tools.JavaCompiler;
import javax.tools.ToolProvider;

/** The example of README.md answers as it says there, and README.md names all tests. */
public final class ReadmeTest {
  private static final Path README = Path.of("README.md");
  private static final Path TESTS = Path.of("src/test/java");
  private static final Pattern ANSWER =
      Pattern.compile("(.*?); *// (-> |throws )([^: ]+)(: .*)?");

  private static int wrong;

  public static void main(String[] args) throws Exception {
    String text = Files.readString(README);
    Matcher block = Pattern.compile("```java\n(.*?)```", Pattern.DOTALL).matcher(text);
    int examples = 0;
    int answers = 0;
    while (block.find()) {
      examples++;
      List<String> body = new ArrayList<>();
      for (String line : block.group(1).split("\n")) {
        Matcher told = ANSWER.matcher(line);
        boolean isTold = told.matches();
        answers += isTold ? 1 : 0;
        body.add(isTold ? asked(told.group(1), told.group(2), told.group(3)) : line);
      }
      run("Example" + examples, body);
    }
    must(examples > 0 && answers >= 40, "README.md has an example with answers");
    namesAll(text);
    System.out.println(answers + " answers of README.md, " + wrong + " wrong");
    System.exit(wrong == 0 ? 0 : 1);
  }

  private static void must(boolean isSo, String what) {
    if (!isSo) {
      wrong++;
      System.out.println(what);
    }
  }

  /** A line of the example with what it answers or throws put beside what is told. */
  private static String asked(String call, String how, String due) {
    String quoted = '"' + call.replace("\\", "\\\\").replace("\"", "\\\"") + '"';
    String got = how.startsWith("->") ? "got = String.valueOf(" + call + ");" : call + ";";
    return "got = \"nothing\"; try { " + got + " }"
        + " catch (RuntimeException e) { got = e.getClass().getSimpleName(); }"
        + " if (!got.equals(\"" + due + "\")) { wrong++; System.out.println(" + quoted
        + " + \" answered \" + got + \", README.md says " + due + "\"); }";
  }

  private static void run(String name, List<String> body) throws Exception {
    Path dir = Files.createTempDirectory("readme");
    Path source = dir.resolve(name + ".java");
    Files.writeString(source, "public final class " + name + " {\n  public static int all() {\n"
        + "int wrong = 0; String got;\n" + String.join("\n", body) + "\nreturn wrong;\n  }\n}\n");
    JavaCompiler compiler = ToolProvider.getSystemJavaCompiler();
    String path = System.getProperty("java.class.path");
    int failed = compiler.run(null, null, null, "-proc:none", "-cp", path, "-d", dir.toString(),
        source.toString());
    must(failed == 0, name + " of README.md does not compile");
    if (failed == 0) {
      try (java.net.URLClassLoader loader =
          new java.net.URLClassLoader(new java.net.URL[] {dir.toUri().toURL()})) {
        wrong += (int) loader.loadClass(name).getMethod("all").invoke(null);
      }
    }
    try (DirectoryStream<Path> made = Files.newDirectoryStream(dir)) {
      for (Path one : made) {
        Files.delete(one);
      }
    }
    Files.delete(dir);
  }

  private static void namesAll(String text) throws Exception {
    try (DirectoryStream<Path> tests = Files.newDirectoryStream(TESTS, "*Test.java")) {
      for (Path test : tests) {
        String name = test.getFileName().toString().replace(".java", "");
        must(text.contains("- `" + name + "`: "), "README.md does not name " + name);
      }
    }
    must(text.contains(".ci/run"), "README.md does not tell how to run the tests");
  }
}
