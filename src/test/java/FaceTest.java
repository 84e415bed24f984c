import java.io.IOException;
import java.lang.reflect.Constructor;
import java.lang.reflect.Executable;
import java.lang.reflect.Field;
import java.lang.reflect.Method;
import java.lang.reflect.Modifier;
import java.nio.file.Files;
import java.nio.file.Path;
import java.util.List;
import java.util.TreeSet;
import java.util.regex.Matcher;
import java.util.regex.Pattern;

/** The class has the face that the document tells: all of it, in its order, and nothing more. */
public final class FaceTest {
  private static int wrong = 0;

  private static void due(boolean holds, String what) {
    if (!holds) {
      wrong++;
      System.out.println("not so: " + what);
    }
  }

  /** "public int guest(int wit, int size)" as "int guest int int", as its types alone are kept. */
  private static String typesOf(String line) {
    return line.replace("public ", "")
        .replaceAll("\\b(int|long) \\w+(?=[,)])", "$1")
        .replaceAll("[(,)]+", " ")
        .replaceAll(" +", " ")
        .trim();
  }

  private static String typesOf(Executable e) {
    StringBuilder b = new StringBuilder();
    if (e instanceof Method m) {
      b.append(m.getReturnType().getName()).append(' ');
    }
    b.append(e.getName());
    for (Class<?> c : e.getParameterTypes()) {
      b.append(' ').append(c.getName());
    }
    return b.toString();
  }

  private static void theSameMembers(List<String> face) {
    TreeSet<String> told = new TreeSet<>();
    for (String line : face) {
      told.add(typesOf(line));
    }
    TreeSet<String> seen = new TreeSet<>();
    for (Method m : WrongCoats.class.getDeclaredMethods()) {
      if (!Modifier.isPrivate(m.getModifiers())) {
        seen.add(typesOf(m));
        due(m.getModifiers() == Modifier.PUBLIC, m + " is public and no more");
      }
    }
    for (Constructor<?> c : WrongCoats.class.getDeclaredConstructors()) {
      seen.add(typesOf(c));
      due(c.getModifiers() == Modifier.PUBLIC, c + " is public");
    }
    due(seen.equals(told), "the members " + told + ", seen " + seen);
    for (Field f : WrongCoats.class.getDeclaredFields()) {
      due(Modifier.isPrivate(f.getModifiers()), f + " is private");
    }
    int flags = WrongCoats.class.getModifiers();
    due(Modifier.isPublic(flags) && Modifier.isFinal(flags), "the class is public and final");
    due(WrongCoats.class.getPackageName().isEmpty(), "the class is without a package");
  }

  private static void theSameLinesInOrder(List<String> face, String text) {
    int at = 0;
    for (String line : face) {
      int next = text.indexOf("\n  " + line + " {", at);
      due(next >= 0, line + " stands behind the one ahead of it");
      at = Math.max(at, next);
    }
  }

  private static void theInterfacesLines(Document document, String text) {
    Matcher m = Pattern.compile("Ahead of the calls `(\\w+)`[^:]* says: (---- [^.]*)\\.")
        .matcher(document.part("Terms"));
    int lines = 0;
    while (m.find()) {
      lines++;
      due(text.contains("\n  // " + m.group(2) + "\n\n  public int " + m.group(1) + "("),
          "\"" + m.group(2) + "\" stands ahead of " + m.group(1));
    }
    due(lines == 5, "the interface says 5 such lines");
  }

  private static void eachPromiseIsOfOneCall(Document document, List<String> face) {
    due(face.size() == Document.PROMISES, "as many calls as promises");
    for (int n = 1; n <= face.size(); n++) {
      String head = "`" + face.get(n - 1).replace("public ", "") + "`:";
      due(document.part("Promise " + n).startsWith(head), "promise " + n + " is of " + head);
    }
  }

  public static void main(String[] args) throws IOException {
    Document document = Document.read();
    String text = Files.readString(Path.of("src/main/java/WrongCoats.java"));
    List<String> face = document.face();
    theSameMembers(face);
    theSameLinesInOrder(face, text);
    theInterfacesLines(document, text);
    eachPromiseIsOfOneCall(document, face);
    System.out.println(wrong == 0 ? "the face is as told" : wrong + " of the face are not so");
    if (wrong != 0) {
      System.exit(1);
    }
  }
}
