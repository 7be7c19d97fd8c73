import java.io.IOException;
import java.nio.file.Files;
import java.nio.file.Path;
import java.util.List;
import java.util.regex.Matcher;
import java.util.regex.Pattern;

/** The rules of ../shared/LANGUAGE.md that can be seen in the text of the class. */
public final class LanguageTests {
  private static int wrong = 0;

  private static void fail(int rule, int line, String what) {
    wrong++;
    System.out.println("rule " + rule + ", line " + line + ": " + what);
  }

  /** The lines with their texts and comments taken out. */
  private static String[] codeLines(String text) {
    String code = text.replaceAll("\"[^\"\n]*\"", "\"\"").replaceAll("//[^\n]*", "");
    Matcher comment = Pattern.compile("/\\*.*?\\*/", Pattern.DOTALL).matcher(code);
    StringBuilder out = new StringBuilder();
    while (comment.find()) {
      comment.appendReplacement(out, comment.group().replaceAll("[^\n]", ""));
    }
    comment.appendTail(out);
    return out.toString().split("\n", -1);
  }

  private static void forbid(String[] lines, int rule, String pattern) {
    Pattern forbidden = Pattern.compile(pattern);
    for (int i = 0; i < lines.length; i++) {
      Matcher m = forbidden.matcher(lines[i]);
      if (m.find()) {
        fail(rule, i + 1, m.group());
      }
    }
  }

  private static void checkWords(String[] lines) {
    forbid(lines, 2, "->|::");
    forbid(lines, 3, "\\b(Math\\.(sqrt|pow|floor|ceil|round)|Double|Float|Object|Map|Set|Deque)\\b");
    forbid(lines, 4, "^import (?!java\\.util\\.(Arrays|ArrayList|List|Iterator|NoSuchElementException);).*");
    forbid(lines, 4, "\\w+Exact\\b|\\bString\\.(valueOf|format|join)|\\bSystem\\.(?!arraycopy)");
    forbid(lines, 5, "\\bstatic (?!final)\\w+(\\[\\])* \\w+\\s*[=;]|\\bstatic \\{");
    forbid(lines, 6, "\\b(finally|synchronized|assert|try|catch)\\b|throw (?!new \\w+\\((\"\")?\\);)");
    forbid(lines, 10, "\"\" \\+|\\+ \"\"|\\+= \"\"");
    forbid(lines, 13, "\\b(Random|Thread|File|currentTimeMillis|nanoTime)\\b");
  }

  private static void checkMethods(String[] lines) {
    Pattern head = Pattern.compile("^(  |    )(?! )(?!.*\\b(class|record|interface|enum)\\b).*\\w+\\(.*");
    for (int i = 0; i < lines.length; i++) {
      if (!head.matcher(lines[i]).matches() || lines[i].endsWith(";")) {
        continue;
      }
      String indent = lines[i].startsWith("    ") ? "    " : "  ";
      int end = i;
      while (end + 1 < lines.length && !lines[end].equals(indent + "}")) {
        end++;
      }
      if (end - i + 1 > 60) {
        fail(11, i + 1, "a method of " + (end - i + 1) + " lines");
      }
      if (lines[i].chars().filter(c -> c == ',').count() > 6) {
        fail(11, i + 1, "more than seven parameters");
      }
    }
  }

  private static void checkClasses(String[] lines) {
    int classes = 0;
    int fields = 0;
    for (int i = 0; i < lines.length; i++) {
      if (lines[i].matches(".*\\b(class|record|interface|enum) \\w+.*\\{")) {
        classes++;
        fields = 0;
      }
      if (lines[i].matches(" +private (?!static)[^(]*;") && ++fields > 20) {
        fail(11, i + 1, "more than twenty fields");
      }
    }
    if (classes < 1 || classes > 12) {
      fail(11, 1, classes + " classes");
    }
  }

  public static void main(String[] args) throws IOException {
    Path path = Path.of("src", "main", "java", "ChoraleDesk.java");
    String[] lines = codeLines(Files.readString(path));
    checkWords(lines);
    checkMethods(lines);
    checkClasses(lines);
    for (String bad : List.of("package ", "class ChoraleDesk extends")) {
      forbid(lines, 1, "^" + bad);
    }
    System.out.println(wrong == 0 ? "the language is as due" : "the language is not as due");
    if (wrong != 0) {
      System.exit(1);
    }
  }
}
