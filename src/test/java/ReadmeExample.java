import java.io.ByteArrayOutputStream;
import java.io.File;
import java.io.PrintStream;
import java.lang.reflect.Method;
import java.lang.reflect.Modifier;
import java.net.URL;
import java.net.URLClassLoader;
import java.nio.charset.StandardCharsets;
import java.nio.file.Files;
import java.nio.file.Path;
import javax.tools.ToolProvider;

/** README.md says how to use the class: its example prints what stands there, and it names every call and every test. */
public final class ReadmeExample {
  private static int wrong = 0;

  private static void must(boolean holds, String what) {
    if (!holds) {
      wrong++;
      System.out.println(what);
    }
  }

  public static void main(String[] args) throws Exception {
    String readme = Files.readString(Path.of("README.md"), StandardCharsets.UTF_8).replace("\r\n", "\n");
    String due = block(readme, "text");
    String printed = run(block(readme, "java"));
    must(printed.equals(due), "the example printed:\n" + printed + "README.md says:\n" + due);
    for (Method m : SleepAct.class.getDeclaredMethods()) {
      if (Modifier.isPublic(m.getModifiers())) must(readme.contains("`" + m.getName() + "`"), "README.md doesn't name " + m.getName());
    }
    File[] tests = new File("src/test/java").listFiles((dir, name) -> name.endsWith(".java"));
    must(tests != null && tests.length > 0, "there are no tests");
    for (File test : tests == null ? new File[0] : tests) {
      String name = test.getName().replace(".java", "");
      must(readme.contains("`" + name + "`"), "README.md doesn't name the test " + name);
    }
    must(readme.contains("`.ci/run`"), "README.md doesn't say how to run the tests");
    System.out.println(wrong == 0 ? "README.md holds" : wrong + " things of README.md don't hold");
    if (wrong != 0) System.exit(1);
  }

  /** What stands in the first block of a kind. */
  private static String block(String readme, String kind) {
    int start = readme.indexOf("```" + kind + "\n");
    int end = start < 0 ? -1 : readme.indexOf("```", start + 3);
    must(end >= 0, "README.md has no block of " + kind);
    return end < 0 ? "" : readme.substring(readme.indexOf('\n', start) + 1, end);
  }

  /** Compiles the example as README.md tells it, runs it, and answers what it printed. */
  private static String run(String source) throws Exception {
    Path out = Files.createTempDirectory("readme");
    Path file = out.resolve("Example.java");
    Files.writeString(file, source, StandardCharsets.UTF_8);
    String[] command = {"-d", out.toString(), "src/main/java/SleepAct.java", file.toString()};
    must(ToolProvider.getSystemJavaCompiler().run(null, null, null, command) == 0, "the example doesn't compile");
    PrintStream screen = System.out;
    ByteArrayOutputStream printed = new ByteArrayOutputStream();
    try (URLClassLoader classes = new URLClassLoader(new URL[] {out.toUri().toURL()}, null)) {
      Method main = classes.loadClass("Example").getMethod("main", String[].class);
      System.setOut(new PrintStream(printed, true, StandardCharsets.UTF_8));
      main.invoke(null, (Object) new String[0]);
    } finally {
      System.setOut(screen);
      delete(out);
    }
    return printed.toString(StandardCharsets.UTF_8).replace("\r\n", "\n");
  }

  private static void delete(Path dir) {
    File[] files = dir.toFile().listFiles();
    for (File f : files == null ? new File[0] : files) f.delete();
    dir.toFile().delete();
  }
}
