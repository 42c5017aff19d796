import java.lang.reflect.Constructor;
import java.lang.reflect.Field;
import java.lang.reflect.Method;
import java.lang.reflect.Modifier;
import java.nio.charset.StandardCharsets;
import java.nio.file.Files;
import java.nio.file.Path;
import java.util.HashSet;
import java.util.Set;
import java.util.TreeSet;
import java.util.regex.Matcher;
import java.util.regex.Pattern;

/** What of LANGUAGE.md can be seen from outside: the face, the words that may not stand in the file, the sizes. */
public final class LanguageRules {
  private static int wrong = 0;

  private static void must(boolean holds, String what) {
    if (!holds) {
      wrong++;
      System.out.println(what);
    }
  }

  public static void main(String[] args) throws Exception {
    face();
    members(SleepAct.class);
    Class<?>[] inside = SleepAct.class.getDeclaredClasses();
    must(inside.length <= 12, "too many classes: " + inside.length);
    Set<String> open = new HashSet<>();
    for (Method m : SleepAct.class.getMethods()) if (m.getDeclaringClass() == SleepAct.class) open.add(m.getName());
    for (Class<?> c : inside) {
      must(Modifier.isStatic(c.getModifiers()) && !Modifier.isPublic(c.getModifiers()), "a class inside: " + c);
      members(c);
      for (Method m : c.getDeclaredMethods()) must(!open.contains(m.getName()), "bears the name of a public one: " + m);
    }
    for (Method m : SleepAct.class.getDeclaredMethods()) {
      must(Modifier.isPublic(m.getModifiers()) || !open.contains(m.getName()), "bears the name of a public one: " + m);
    }
    source();
    System.out.println(wrong == 0 ? "the rules are kept" : wrong + " rules are not kept");
    if (wrong != 0) System.exit(1);
  }

  /** The public members are just those of the document. */
  private static void face() throws Exception {
    String doc = Files.readString(Path.of("../shared/DOC.md"), StandardCharsets.UTF_8);
    String java = doc.substring(doc.indexOf("```java"), doc.indexOf("```", doc.indexOf("```java") + 7));
    Set<String> due = new TreeSet<>();
    Matcher m = Pattern.compile("public (int|long) (\\w+)\\(([^)]*)\\);").matcher(java);
    while (m.find()) due.add(m.group(1) + " " + m.group(2) + "(" + m.group(3).replaceAll("(\\w+) \\w+", "$1").replace(" ", "") + ")");
    Set<String> got = new TreeSet<>();
    for (Method x : SleepAct.class.getDeclaredMethods()) {
      if (Modifier.isPrivate(x.getModifiers())) continue;
      must(Modifier.isPublic(x.getModifiers()), "not public, not private: " + x);
      StringBuilder b = new StringBuilder();
      for (Class<?> p : x.getParameterTypes()) b.append(b.length() > 0 ? "," : "").append(p.getName());
      got.add(x.getReturnType().getName() + " " + x.getName() + "(" + b + ")");
    }
    must(due.size() == 39, "the document's face has " + due.size() + " methods");
    must(got.equals(due), "the face is " + got + ", due is " + due);
    for (Constructor<?> c : SleepAct.class.getDeclaredConstructors()) {
      must(Modifier.isPublic(c.getModifiers()) && c.getParameterCount() == 0, "a constructor: " + c);
    }
    for (Field f : SleepAct.class.getDeclaredFields()) {
      must(Modifier.isPrivate(f.getModifiers()) || f.getName().equals("NONE"), "a field: " + f);
    }
    must(Modifier.isFinal(SleepAct.class.getModifiers()), "the class isn't final");
  }

  private static void members(Class<?> c) {
    int fields = 0;
    for (Field f : c.getDeclaredFields()) {
      boolean fixed = Modifier.isStatic(f.getModifiers());
      must(!fixed || Modifier.isFinal(f.getModifiers()), "a static field that isn't final: " + f);
      fields += fixed ? 0 : 1;
    }
    must(fields <= 20, c + " has " + fields + " fields");
    for (Method m : c.getDeclaredMethods()) must(m.getParameterCount() <= 7, "too many parameters: " + m);
  }

  private static void source() throws Exception {
    byte[] bytes = Files.readAllBytes(Path.of("src/main/java/SleepAct.java"));
    for (byte b : bytes) must(b > 0, "a sign that isn't 1 to 127: " + b);
    String code = new String(bytes, StandardCharsets.US_ASCII);
    code = code.replaceAll("(?s)/\\*.*?\\*/", "").replaceAll("//[^\n]*", "").replaceAll("'.'", "0").replaceAll("\"[^\"]*\"", "TEXT");
    String[] banned = {"\\bthrows?\\b", "\\btry\\b", "\\bcatch\\b", "\\bsynchronized\\b", "\\bassert\\b", "->", "::", "Exact\\b",
      "\\bpackage\\b", "\\bprotected\\b", "\\bSystem\\.(?!arraycopy)", "\\bRandom\\b", "\\bThread\\b", "\\bstatic\\s*\\{", "\\bhashCode\\b",
      "\\btoString\\b", "\\bObject\\b", "\\bfloat\\b", "\\bdouble\\b", "while \\(true\\)", "for \\(;;\\)", "TEXT \\+", "\\+ TEXT", "\\bvar\\b"};
    for (String word : banned) must(!Pattern.compile(word).matcher(code).find(), "may not stand there: " + word);
    Matcher imports = Pattern.compile("import ([\\w.]+);").matcher(code);
    while (imports.find()) must(imports.group(1).matches("java\\.util\\.(Arrays|ArrayList|List)"), "an import: " + imports.group(1));
    lengths(code);
  }

  /** Methods stay short. */
  private static void lengths(String code) {
    Matcher m = Pattern.compile("\n( {4}| {8})(?:\\w[^\n;=]*)\\([^\n;]*\\) \\{\n").matcher(code);
    int methods = 0;
    while (m.find()) {
      int close = code.indexOf("\n" + m.group(1) + "}", m.end() - 1);
      long lines = code.substring(m.start(), close).lines().count();
      methods++;
      must(lines <= 60, lines + " lines: " + m.group().trim());
    }
    must(methods > 80, "only " + methods + " methods were found");
  }
}
