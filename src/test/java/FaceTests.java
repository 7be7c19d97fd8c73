import java.io.IOException;
import java.lang.reflect.Constructor;
import java.lang.reflect.Field;
import java.lang.reflect.Method;
import java.lang.reflect.Modifier;
import java.nio.file.Files;
import java.nio.file.Path;
import java.util.Set;
import java.util.TreeSet;

/** The class has the face of the document, and nothing else that can be seen from outside. */
public final class FaceTests {
  private static int wrong = 0;

  private static void fail(String what) {
    wrong++;
    System.out.println(what);
  }

  private static Set<String> faceOfTheDocument() throws IOException {
    String text = Files.readString(Path.of("..", "shared", "DOC.md"));
    int from = text.indexOf("```java");
    String face = text.substring(from, text.indexOf("```", from + 3));
    Set<String> calls = new TreeSet<>();
    for (String line : face.split("\n")) {
      if (line.contains("(") && !line.contains("ChoraleDesk()")) {
        calls.add(withoutNames(line.strip()));
      }
    }
    return calls;
  }

  /** "public int events(int part) throws X;" becomes "int events(int) throws X". */
  private static String withoutNames(String line) {
    String call = line.replace("public ", "").replace(";", "");
    return call.replaceAll("(int|long|boolean|double) \\w+(?=[,)])", "$1").replaceAll(",\\s*", ",");
  }

  private static String told(Method method) {
    StringBuilder text = new StringBuilder();
    text.append(method.getReturnType().getSimpleName()).append(' ').append(method.getName()).append('(');
    String between = "";
    for (Class<?> type : method.getParameterTypes()) {
      text.append(between).append(type.getSimpleName());
      between = ",";
    }
    text.append(')');
    between = " throws ";
    for (Class<?> type : method.getExceptionTypes()) {
      text.append(between).append(type.getSimpleName());
      between = ",";
    }
    return text.toString();
  }

  private static void checkMethods() throws IOException {
    Set<String> due = faceOfTheDocument();
    Set<String> names = new TreeSet<>();
    Set<String> found = new TreeSet<>();
    for (Method method : ChoraleDesk.class.getDeclaredMethods()) {
      if (Modifier.isPublic(method.getModifiers())) {
        found.add(told(method));
        names.add(method.getName());
      }
    }
    if (due.isEmpty() || !found.equals(due)) {
      fail("the face is " + found + ", due is " + due);
    }
    for (Method method : ChoraleDesk.class.getDeclaredMethods()) {
      boolean isPublic = Modifier.isPublic(method.getModifiers());
      boolean isPrivate = Modifier.isPrivate(method.getModifiers());
      if (!isPublic && (!isPrivate || names.contains(method.getName()))) {
        fail("this method should not be: " + method);
      }
    }
  }

  private static void checkRest() {
    if (!Modifier.isFinal(ChoraleDesk.class.getModifiers())) {
      fail("the class is not final");
    }
    Constructor<?>[] constructors = ChoraleDesk.class.getDeclaredConstructors();
    if (constructors.length != 1 || constructors[0].getParameterCount() != 0
        || !Modifier.isPublic(constructors[0].getModifiers())) {
      fail("the constructors are not as due");
    }
    for (Field field : ChoraleDesk.class.getDeclaredFields()) {
      checkField(field);
    }
    for (Class<?> inside : ChoraleDesk.class.getDeclaredClasses()) {
      if (!Modifier.isPrivate(inside.getModifiers()) || !Modifier.isStatic(inside.getModifiers())) {
        fail("this class should be private and static: " + inside);
      }
      for (Field field : inside.getDeclaredFields()) {
        checkField(field);
      }
    }
  }

  private static void checkField(Field field) {
    int modifiers = field.getModifiers();
    if (!Modifier.isPrivate(modifiers) || (Modifier.isStatic(modifiers) && !Modifier.isFinal(modifiers))) {
      fail("this field should not be: " + field);
    }
  }

  public static void main(String[] args) throws IOException {
    checkMethods();
    checkRest();
    System.out.println(wrong == 0 ? "the face is as due" : "the face is not as due");
    if (wrong != 0) {
      System.exit(1);
    }
  }
}
