import java.io.File;
import java.io.PrintWriter;
import java.io.StringWriter;
import java.lang.reflect.Constructor;
import java.lang.reflect.Field;
import java.lang.reflect.Method;
import java.lang.reflect.Modifier;
import java.nio.charset.StandardCharsets;
import java.nio.file.Files;
import java.nio.file.Path;
import java.util.ArrayList;
import java.util.HashSet;
import java.util.List;
import java.util.Map;
import java.util.Set;
import java.util.TreeMap;
import java.util.TreeSet;
import java.util.regex.Matcher;
import java.util.regex.Pattern;
import java.util.spi.ToolProvider;

/** What of LANGUAGE.md can be seen from outside: the face, the words that may not stand in the file, the sizes, the calls. */
public final class LanguageRules {
  private static int wrong = 0;

  private static void must(boolean holds, String what) {
    if (!holds) {
      wrong++;
      System.out.println(what);
    }
  }

  public static void main(String[] args) throws Exception {
    face();
    members(SleepAct.class);
    Class<?>[] inside = SleepAct.class.getDeclaredClasses();
    must(inside.length <= 12, "too many classes: " + inside.length);
    Set<String> open = new HashSet<>();
    for (Method m : SleepAct.class.getMethods()) if (m.getDeclaringClass() == SleepAct.class) open.add(m.getName());
    for (Class<?> c : inside) {
      must(Modifier.isStatic(c.getModifiers()) && !Modifier.isPublic(c.getModifiers()), "a class inside: " + c);
      members(c);
      for (Method m : c.getDeclaredMethods()) must(!open.contains(m.getName()), "bears the name of a public one: " + m);
    }
    for (Method m : SleepAct.class.getDeclaredMethods()) {
      must(Modifier.isPublic(m.getModifiers()) || !open.contains(m.getName()), "bears the name of a public one: " + m);
    }
    source();
    calls();
    System.out.println(wrong == 0 ? "the rules are kept" : wrong + " rules are not kept");
    if (wrong != 0) System.exit(1);
  }

  /** The public members are just those of the document. */
  private static void face() throws Exception {
    String doc = Files.readString(Path.of("../shared/DOC.md"), StandardCharsets.UTF_8);
    String java = doc.substring(doc.indexOf("```java"), doc.indexOf("```", doc.indexOf("```java") + 7));
    Set<String> due = new TreeSet<>();
    Matcher m = Pattern.compile("public (int|long) (\\w+)\\(([^)]*)\\);").matcher(java);
    while (m.find()) due.add(m.group(1) + " " + m.group(2) + "(" + m.group(3).replaceAll("(\\w+) \\w+", "$1").replace(" ", "") + ")");
    Set<String> got = new TreeSet<>();
    for (Method x : SleepAct.class.getDeclaredMethods()) {
      if (Modifier.isPrivate(x.getModifiers())) continue;
      must(Modifier.isPublic(x.getModifiers()), "not public, not private: " + x);
      StringBuilder b = new StringBuilder();
      for (Class<?> p : x.getParameterTypes()) b.append(b.length() > 0 ? "," : "").append(p.getName());
      got.add(x.getReturnType().getName() + " " + x.getName() + "(" + b + ")");
    }
    must(due.size() == 39, "the document's face has " + due.size() + " methods");
    must(got.equals(due), "the face is " + got + ", due is " + due);
    for (Constructor<?> c : SleepAct.class.getDeclaredConstructors()) {
      must(Modifier.isPublic(c.getModifiers()) && c.getParameterCount() == 0, "a constructor: " + c);
    }
    for (Field f : SleepAct.class.getDeclaredFields()) {
      must(Modifier.isPrivate(f.getModifiers()) || f.getName().equals("NONE"), "a field: " + f);
    }
    must(Modifier.isFinal(SleepAct.class.getModifiers()), "the class isn't final");
  }

  private static void members(Class<?> c) {
    int fields = 0;
    for (Field f : c.getDeclaredFields()) {
      boolean fixed = Modifier.isStatic(f.getModifiers());
      must(!fixed || Modifier.isFinal(f.getModifiers()), "a static field that isn't final: " + f);
      fields += fixed ? 0 : 1;
    }
    must(fields <= 20, c + " has " + fields + " fields");
    for (Method m : c.getDeclaredMethods()) must(m.getParameterCount() <= 7, "too many parameters: " + m);
  }

  private static void source() throws Exception {
    byte[] bytes = Files.readAllBytes(Path.of("src/main/java/SleepAct.java"));
    for (byte b : bytes) must(b > 0, "a sign that isn't 1 to 127: " + b);
    String code = new String(bytes, StandardCharsets.US_ASCII);
    code = code.replaceAll("(?s)/\\*.*?\\*/", "").replaceAll("//[^\n]*", "").replaceAll("'.'", "0").replaceAll("\"[^\"]*\"", "TEXT");
    String[] banned = {"\\bthrows?\\b", "\\btry\\b", "\\bcatch\\b", "\\bsynchronized\\b", "\\bassert\\b", "->", "::", "Exact\\b",
      "\\bpackage\\b", "\\bprotected\\b", "\\bSystem\\.(?!arraycopy)", "\\bRandom\\b", "\\bThread\\b", "\\bstatic\\s*\\{", "\\bhashCode\\b",
      "\\btoString\\b", "\\bObject\\b", "\\bfloat\\b", "\\bdouble\\b", "while \\(true\\)", "for \\(;;\\)", "TEXT \\+", "\\+ TEXT", "\\bvar\\b"};
    for (String word : banned) must(!Pattern.compile(word).matcher(code).find(), "may not stand there: " + word);
    Matcher imports = Pattern.compile("import ([\\w.]+);").matcher(code);
    while (imports.find()) must(imports.group(1).matches("java\\.util\\.(Arrays|ArrayList|List)"), "an import: " + imports.group(1));
    lengths(code);
  }

  /** Methods stay short. */
  private static void lengths(String code) {
    Matcher m = Pattern.compile("\n( {4}| {8})(?:\\w[^\n;=]*)\\([^\n;]*\\) \\{\n").matcher(code);
    int methods = 0;
    while (m.find()) {
      int close = code.indexOf("\n" + m.group(1) + "}", m.end() - 1);
      long lines = code.substring(m.start(), close).lines().count();
      methods++;
      must(lines <= 60, lines + " lines: " + m.group().trim());
    }
    must(methods > 80, "only " + methods + " methods were found");
  }

  /** What rule 4 lists, as far as the program may need it. */
  private static final String LIBRARY = "java/lang/(Object\\.<init>"
      + "|String\\.(length|charAt|isEmpty|equals|indexOf|substring|toCharArray|<init>)"
      + "|StringBuilder\\.(<init>|append|charAt|setCharAt|setLength|deleteCharAt|reverse|length|toString)"
      + "|(Integer|Long)\\.(compare|max|min|bitCount|numberOfTrailingZeros|numberOfLeadingZeros|highestOneBit|lowestOneBit)"
      + "|Math\\.(max|min|abs|floorDiv|floorMod)|System\\.arraycopy)"
      + "|java/util/Arrays\\.(copyOf|copyOfRange|fill)|\\[.*\\.clone";

  /** Of the library the program calls only what is listed, and no calls but those of a recursion go deeper than eight. */
  private static void calls() {
    Map<String, Set<String>> calls = compiledCalls();
    must(calls.size() > 100, "only " + calls.size() + " methods were found in what was compiled");
    for (Map.Entry<String, Set<String>> e : calls.entrySet()) {
      for (String to : e.getValue()) must(calls.containsKey(to) || to.matches(LIBRARY), e.getKey() + " calls " + to);
    }
    Map<String, Set<String>> reached = new TreeMap<>();
    for (String m : calls.keySet()) reached.put(m, reachedFrom(m, calls));
    Map<String, Integer> depths = new TreeMap<>();
    for (String m : calls.keySet()) {
      int depth = depth(m, calls, reached, depths);
      must(depth <= 8, m + ": its calls go " + depth + " deep");
    }
  }

  /** By class and name of each method the ones that it calls, as the compiled program has it. */
  private static Map<String, Set<String>> compiledCalls() {
    File[] files = new File(SleepAct.class.getResource("SleepAct.class").getPath()).getParentFile().listFiles();
    List<String> arguments = new ArrayList<>(List.of("-p", "-c"));
    for (File f : files) if (f.getName().matches("SleepAct(\\$\\w+)?\\.class")) arguments.add(f.getPath());
    StringWriter told = new StringWriter();
    PrintWriter out = new PrintWriter(told);
    ToolProvider.findFirst("javap").orElseThrow().run(out, out, arguments.toArray(new String[0]));
    Pattern opened = Pattern.compile("^[^ ].*class (SleepAct[\\w$]*).*\\{$");
    Pattern begun = Pattern.compile("^  (?! )(?:.* )?([\\w$]+)\\(.*\\);$");
    Pattern called = Pattern.compile("invoke.*// (?:Interface)?Method (?:(\"?[\\w$/\\[;]+\"?)\\.)?\"?([\\w<>]+)\"?:");
    Map<String, Set<String>> calls = new TreeMap<>();
    String in = "";
    String method = "";
    for (String line : told.toString().split("\\R")) {
      Matcher m = opened.matcher(line);
      if (m.find()) in = m.group(1);
      m = begun.matcher(line);
      if (m.find()) {
        method = in + "." + (m.group(1).equals(in) ? "<init>" : m.group(1));
        calls.putIfAbsent(method, new TreeSet<>());
      }
      m = called.matcher(line);
      if (m.find()) calls.get(method).add((m.group(1) == null ? in : m.group(1).replace("\"", "")) + "." + m.group(2));
    }
    return calls;
  }

  private static Set<String> reachedFrom(String method, Map<String, Set<String>> calls) {
    Set<String> reached = new TreeSet<>();
    List<String> open = new ArrayList<>(List.of(method));
    while (!open.isEmpty()) {
      for (String to : calls.getOrDefault(open.remove(open.size() - 1), Set.of())) if (reached.add(to)) open.add(to);
    }
    return reached;
  }

  /** How many calls stand one in another at most, methods that call one another in a ring being one. */
  private static int depth(String method, Map<String, Set<String>> calls, Map<String, Set<String>> reached, Map<String, Integer> known) {
    Integer before = known.get(method);
    if (before != null) return before;
    Set<String> ring = new TreeSet<>(Set.of(method));
    for (String m : reached.get(method)) if (calls.containsKey(m) && reached.get(m).contains(method)) ring.add(m);
    int deepest = 0;
    for (String m : ring) {
      for (String to : calls.get(m)) if (calls.containsKey(to) && !ring.contains(to)) deepest = Math.max(deepest, depth(to, calls, reached, known));
    }
    known.put(method, deepest + 1);
    return deepest + 1;
  }
}
