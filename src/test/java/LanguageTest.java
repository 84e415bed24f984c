import java.io.IOException;
import java.lang.reflect.Field;
import java.lang.reflect.Method;
import java.lang.reflect.Modifier;
import java.nio.file.Files;
import java.nio.file.Path;
import java.util.ArrayList;
import java.util.Arrays;
import java.util.List;
import java.util.Map;
import java.util.TreeMap;
import java.util.TreeSet;
import java.util.regex.Matcher;
import java.util.regex.Pattern;

/** What of the rules of LANGUAGE.md can be seen from the class and from its text, but the face. */
public final class LanguageTest {
  private static final String[] FORBIDDEN = {
    "\\bthrow\\b", "\\btry\\b", "\\bcatch\\b", "\\bsynchronized\\b", "\\bassert\\b", "->", "::",
    "\\bimport\\b", "\\bpackage\\b", "\\bequals\\b", "\\bhashCode\\b", "\\btoString\\b",
    "\\bSystem\\.(?!arraycopy)", "\\bRandom\\b", "\\bThread\\b", "Exact\\b", "\\bfloat\\b",
    "\\bdouble\\b", "\\bvar\\b", "\\bnative\\b", "\\bvolatile\\b", "\\btransient\\b", "@"
  };

  private static int wrong = 0;

  private static void due(boolean holds, String rule) {
    if (!holds) {
      wrong++;
      System.out.println("not so: " + rule);
    }
  }

  private static void members() {
    TreeSet<String> names = new TreeSet<>();
    for (Method m : WrongCoats.class.getDeclaredMethods()) {
      if (Modifier.isPublic(m.getModifiers())) {
        names.add(m.getName());
      }
    }
    inside(WrongCoats.class, names, true);
  }

  private static void inside(Class<?> c, TreeSet<String> names, boolean outer) {
    int fields = 0;
    for (Field f : c.getDeclaredFields()) {
      boolean isStatic = Modifier.isStatic(f.getModifiers());
      due(!isStatic || Modifier.isFinal(f.getModifiers()), f + " is final");
      fields += isStatic ? 0 : 1;
    }
    due(fields <= 20, c + " has at most twenty fields");
    for (Method m : c.getDeclaredMethods()) {
      due(m.getParameterCount() <= 7, m + " takes at most seven");
      due(outer || !names.contains(m.getName()), m + " bears no public name");
      due(!outer || Modifier.isPublic(m.getModifiers()) || !names.contains(m.getName()),
          m + " bears no public name");
    }
    Class<?>[] all = c.getDeclaredClasses();
    due(all.length <= 12, "at most twelve classes");
    for (Class<?> one : all) {
      due(Modifier.isStatic(one.getModifiers()), one + " is static");
      due(!Modifier.isPublic(one.getModifiers()), one + " isn't public");
      due(!Modifier.isProtected(one.getModifiers()), one + " isn't protected");
      inside(one, names, false);
    }
  }

  /** The text without comments and without what stands between quotes. */
  private static String bare(String text) {
    return text.replaceAll("(?s)/\\*.*?\\*/", "")
        .replaceAll("//[^\n]*", "")
        .replaceAll("'(\\\\.|[^'])'", "''")
        .replaceAll("\"[^\"]*\"", "\"\"");
  }

  private static void words(String text) {
    for (String one : FORBIDDEN) {
      Matcher m = Pattern.compile(one).matcher(text);
      due(!m.find(), "no " + one + " in the text");
    }
    for (char c : text.toCharArray()) {
      due(c < 128, "signs of 1 to 127 alone");
    }
    due(!Pattern.compile("\\bnew (?!Ints|Law|House|Boy|Thought|Reader|Speaker|Sheet|int)")
        .matcher(text).find(), "new of own classes and int rows alone");
    due(Pattern.compile("\\[\\]\\[\\]").matcher(text).results().count() == 0, "rows of one dimension");
  }

  /** Lines from a method's head to its end. */
  private static void lengths(String text) {
    Map<String, Integer> long60 = new TreeMap<>();
    List<String> lines = new ArrayList<>(Arrays.asList(text.split("\n")));
    Pattern head = Pattern.compile("^( {2,4})[A-Za-z].*\\) \\{$");
    for (int i = 0; i < lines.size(); i++) {
      Matcher m = head.matcher(lines.get(i));
      if (!m.matches()) {
        continue;
      }
      int end = i;
      while (end < lines.size() && !lines.get(end).equals(m.group(1) + "}")) {
        end++;
      }
      if (end - i + 1 > 60) {
        long60.put(lines.get(i), end - i + 1);
      }
    }
    due(long60.isEmpty(), "methods of at most sixty lines: " + long60);
  }

  /** Only the rows and objects of the constructors are ever made: no new stands in a method. */
  private static void newOnlyInFieldsAndConstructors(String text) {
    for (String line : text.split("\n")) {
      if (line.contains("new ")) {
        boolean isField = line.matches("^ {2,4}(private )?final .*");
        boolean isInConstructor = line.trim().startsWith("rows = new");
        due(isField || isInConstructor, "new in fields and constructors alone: " + line);
      }
    }
  }

  public static void main(String[] args) throws IOException {
    String text = bare(Files.readString(Path.of("src/main/java/WrongCoats.java")));
    members();
    words(text);
    lengths(text);
    newOnlyInFieldsAndConstructors(text);
    System.out.println(wrong == 0 ? "the language is kept" : wrong + " rules are not kept");
    if (wrong != 0) {
      System.exit(1);
    }
  }
}
