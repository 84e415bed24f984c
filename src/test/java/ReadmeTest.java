import java.io.IOException;
import java.lang.reflect.InvocationTargetException;
import java.lang.reflect.Method;
import java.nio.file.Files;
import java.nio.file.Path;
import java.util.ArrayList;
import java.util.List;
import java.util.TreeSet;
import java.util.regex.Matcher;
import java.util.regex.Pattern;
import java.util.stream.Stream;

/** README.md holds as it is written. */
public final class ReadmeTest {
  private static final Pattern BLOCK = Pattern.compile("(?s)```java\n(.*?)```");
  private static final Pattern CALL =
      Pattern.compile("x\\.(\\w+)\\(([^)]*)\\); +// (-?\\d+)(: .*)?");
  private static final String NEW = "WrongCoats x = new WrongCoats();";

  private static int wrong = 0;

  private static void due(boolean holds, String what) {
    if (!holds) {
      wrong++;
      System.out.println("not so: " + what);
    }
  }

  private static Method callOf(String name) {
    for (Method m : WrongCoats.class.getDeclaredMethods()) {
      if (m.getName().equals(name)) {
        return m;
      }
    }
    return null;
  }

  private static Object[] arguments(Method call, String written) {
    List<Object> all = new ArrayList<>();
    for (Class<?> type : call.getParameterTypes()) {
      String one = written.split(", ")[all.size()];
      if (type == long.class) {
        all.add(Long.decode(one.replace("L", "")));
      } else {
        all.add(Integer.decode(one));
      }
    }
    return all.toArray();
  }

  private static int examples(String page) throws ReflectiveOperationException {
    int calls = 0;
    Matcher block = BLOCK.matcher(page);
    while (block.find()) {
      WrongCoats x = null;
      for (String line : block.group(1).split("\n")) {
        Matcher call = CALL.matcher(line);
        if (line.equals(NEW)) {
          x = new WrongCoats();
        } else if (x != null && call.matches() && callOf(call.group(1)) != null) {
          calls++;
          Method m = callOf(call.group(1));
          Object got = m.invoke(x, arguments(m, call.group(2)));
          due(got.toString().equals(call.group(3)), line + " (answered " + got + ")");
        } else {
          due(false, "a call that can be made: " + line);
        }
      }
    }
    return calls;
  }

  private static void errors(String page) throws IOException {
    Document document = Document.read();
    Matcher row = Pattern.compile("\\| (\\d) \\| ([A-Z]+) \\| (-\\d+) \\|").matcher(page);
    int rows = 0;
    while (row.find()) {
      rows++;
      int number = Integer.parseInt(row.group(1));
      due(number == rows, "ERROR " + rows + " is told, in order");
      due(Integer.parseInt(row.group(3)) == -1000000000 - number, row.group() + " has its answer");
      due(document.has("Terms: LOW - " + number + " " + row.group(2)), row.group() + " has its name");
    }
    due(rows == 6, "6 ERRORS are told");
  }

  private static void everyCallIsNamed(String page) throws IOException {
    for (String line : Document.read().face()) {
      String name = line.replaceAll("\\(.*", "").replaceAll(".* ", "");
      due(page.contains("`" + name + "`") || page.contains("`new " + name + "()`"), name + " is named");
    }
  }

  private static void everyTestIsNamed(String page) throws IOException {
    TreeSet<String> named = new TreeSet<>();
    Matcher name = Pattern.compile("`(\\w+Test)`").matcher(page);
    while (name.find()) {
      named.add(name.group(1));
    }
    TreeSet<String> there = new TreeSet<>();
    try (Stream<Path> files = Files.list(Path.of("src/test/java"))) {
      files.map(file -> file.getFileName().toString())
          .filter(file -> file.endsWith(".java"))
          .forEach(file -> there.add(file.replace(".java", "")));
    }
    due(named.equals(there), "the tests named " + named + " are those that are there " + there);
  }

  private static void everyPlaceIsThere(String page) {
    Matcher place = Pattern.compile("`([.\\w]+(/[.\\w]+)+)`|(?m)^(\\.ci/run)$").matcher(page);
    int places = 0;
    while (place.find()) {
      places++;
      String path = place.group(1) == null ? place.group(3) : place.group(1);
      due(Files.exists(Path.of(path)), path + " is there");
    }
    due(places >= 6, "places are told");
    due(Files.isExecutable(Path.of(".ci/run")), ".ci/run can be run");
  }

  public static void main(String[] args) throws IOException, ReflectiveOperationException {
    String page = Files.readString(Path.of("README.md"));
    int calls = 0;
    try {
      calls = examples(page);
    } catch (InvocationTargetException e) {
      due(false, "no call throws: " + e.getCause());
    }
    due(calls >= 30, "calls are shown");
    errors(page);
    everyCallIsNamed(page);
    everyTestIsNamed(page);
    everyPlaceIsThere(page);
    due(page.contains("at most 512 calls"), "for how many calls an object is");
    System.out.println(wrong == 0 ? calls + " calls as README.md has them" : wrong + " are not so");
    if (wrong != 0) {
      System.exit(1);
    }
  }
}
