import java.io.IOException;
import java.lang.reflect.InvocationTargetException;
import java.lang.reflect.Method;
import java.lang.reflect.Modifier;
import java.net.URL;
import java.net.URLClassLoader;
import java.nio.file.Files;
import java.nio.file.Path;
import java.util.Set;
import java.util.TreeSet;
import java.util.regex.Matcher;
import java.util.regex.Pattern;
import java.util.stream.Stream;
import javax.tools.JavaCompiler;
import javax.tools.ToolProvider;

/** README.md tells the truth: its example answers what it says, and it names each call and each test. */
public final class ReadmeTests {
  private static final Pattern ANSWER =
      Pattern.compile("^(?:int|boolean) (\\w+) = desk\\..*; *// (-?\\d+|true|false)\\b.*");

  private static int wrong = 0;

  private static void fail(String what) {
    wrong++;
    System.out.println("README.md: " + what);
  }

  private static String between(String text, String from, String to) {
    int begin = text.indexOf(from);
    int end = begin < 0 ? -1 : text.indexOf(to, begin + from.length());
    if (end < 0) {
      fail("nothing between " + from.strip() + " and " + to.strip());
      return "";
    }
    return text.substring(begin + from.length(), end);
  }

  // ---- the example

  /** The example as a program that tells the answers that are not those of its comments. */
  private static String programOf(String example) {
    StringBuilder out = new StringBuilder("public final class Example {\npublic static String wrong() {\n");
    out.append("String wrong = \"\";\n");
    int answers = 0;
    for (String line : example.split("\n")) {
      out.append(line).append('\n');
      Matcher answer = ANSWER.matcher(line);
      if (answer.matches()) {
        answers++;
        String name = answer.group(1);
        out.append("if (" + name + " != " + answer.group(2) + ") { wrong += \" " + name + " is \" + " + name + "; }\n");
      }
    }
    if (answers < 10) {
      fail("only " + answers + " answers in the example");
    }
    return out.append("return wrong;\n}\n}\n").toString();
  }

  private static String answersOf(Path directory) throws IOException, ReflectiveOperationException {
    try (URLClassLoader loader = new URLClassLoader(new URL[] {directory.toUri().toURL()})) {
      return (String) loader.loadClass("Example").getMethod("wrong").invoke(null);
    } catch (InvocationTargetException e) {
      return " it throws " + e.getCause();
    }
  }

  private static void checkExample(String readme) throws IOException, ReflectiveOperationException {
    Path directory = Files.createTempDirectory("readme");
    Path source = directory.resolve("Example.java");
    Files.writeString(source, programOf(between(readme, "```java\n", "```")));
    JavaCompiler compiler = ToolProvider.getSystemJavaCompiler();
    int code = compiler.run(null, null, null, "-cp", System.getProperty("java.class.path"),
        "-d", directory.toString(), source.toString());
    String answers = code == 0 ? answersOf(directory) : " it does not compile";
    if (!answers.isEmpty()) {
      fail("the example:" + answers);
    }
    try (Stream<Path> files = Files.list(directory)) {
      for (Path file : files.toList()) {
        Files.delete(file);
      }
    }
    Files.delete(directory);
  }

  // ---- what it names

  private static Set<String> namesIn(String text, String pattern) {
    Set<String> names = new TreeSet<>();
    Matcher name = Pattern.compile(pattern, Pattern.MULTILINE).matcher(text);
    while (name.find()) {
      if (!names.add(name.group(1))) {
        fail(name.group(1) + " is named twice");
      }
    }
    return names;
  }

  private static void same(String what, Set<String> named, Set<String> due) {
    if (due.isEmpty() || !named.equals(due)) {
      fail("the " + what + " are " + named + ", due are " + due);
    }
  }

  private static void checkCalls(String readme) {
    Set<String> calls = new TreeSet<>();
    for (Method method : ChoraleDesk.class.getDeclaredMethods()) {
      if (Modifier.isPublic(method.getModifiers())) {
        calls.add(method.getName());
      }
    }
    same("calls", namesIn(between(readme, "| --- | --- |\n", "\n\n"), "`(\\w+)`"), calls);
  }

  private static void checkTests(String readme) throws IOException {
    Set<String> tests = new TreeSet<>();
    try (Stream<Path> files = Files.list(Path.of("src", "test", "java"))) {
      for (Path file : files.toList()) {
        tests.add(file.getFileName().toString().replace(".java", ""));
      }
    }
    same("tests", namesIn(readme, "^- `(\\w+)`:"), tests);
  }

  public static void main(String[] args) throws IOException, ReflectiveOperationException {
    String readme = Files.readString(Path.of("README.md"));
    checkExample(readme);
    checkCalls(readme);
    checkTests(readme);
    System.out.println(wrong == 0 ? "README.md is as due" : "README.md is not as due");
    if (wrong != 0) {
      System.exit(1);
    }
  }
}
