import java.lang.reflect.Constructor;
import java.lang.reflect.Executable;
import java.lang.reflect.Field;
import java.lang.reflect.Method;
import java.lang.reflect.Modifier;
import java.nio.file.Files;
import java.nio.file.Path;
import java.util.ArrayList;
import java.util.Arrays;
import java.util.List;
import java.util.TreeSet;
import java.util.stream.Collectors;

/** The rules of ../shared/LANGUAGE.md that can be seen from the class and its text. */
public final class LanguageTest {
  private static final Path DOC = Path.of("../shared/DOC.md");
  private static final Path SOURCE = Path.of("src/main/java/CrankBranches.java");
  private static final String[] NEVER = {"->", "::", "catch", "finally", "try ", "synchronized", "assert ",
      "instanceof", "double", "float", "Exact(", "goto", "static {", "System.out", "Random", "Thread", "var "};
  private static final TreeSet<String> IMPORTS =
      new TreeSet<>(Arrays.asList("import java.util.Arrays;", "import java.util.NoSuchElementException;"));

  private final Check check = new Check();

  public static void main(String[] args) throws Exception {
    LanguageTest test = new LanguageTest();
    test.face();
    test.members();
    test.text();
    test.check.end();
  }

  private void yes(String what, boolean holds) {
    check.due(what, holds, true);
  }

  private static List<Class<?>> classes() {
    List<Class<?>> all = new ArrayList<>();
    all.add(CrankBranches.class);
    all.addAll(Arrays.asList(CrankBranches.class.getDeclaredClasses()));
    return all;
  }

  private static String types(Executable one) {
    return Arrays.stream(one.getParameterTypes()).map(Class::getSimpleName).collect(Collectors.joining(","));
  }

  /** Rule 1: the document's face, and no more. */
  private void face() throws Exception {
    TreeSet<String> want = new TreeSet<>();
    for (String line : Files.readAllLines(DOC)) {
      String text = line.trim();
      if (line.startsWith("    public ") && !text.contains("=")) {
        String types = text.substring(text.indexOf('(') + 1, text.indexOf(')')).replaceAll(" \\w+(,|$)", "$1");
        want.add(text.substring(7, text.indexOf('(')) + "(" + types.replace(" ", "") + ")");
      }
    }
    TreeSet<String> got = new TreeSet<>();
    for (Method m : CrankBranches.class.getDeclaredMethods()) {
      if (Modifier.isPublic(m.getModifiers())) {
        got.add(m.getReturnType().getSimpleName() + " " + m.getName() + "(" + types(m) + ")");
      }
      yes("rule 1: " + m.getName() + " public or private", isPublicOrPrivate(m.getModifiers()));
    }
    for (Constructor<?> c : CrankBranches.class.getDeclaredConstructors()) {
      got.add(c.getName() + "(" + types(c) + ")");
    }
    System.out.println(want.size() + " members of the face");
    yes("rule 1: the face is " + want + ", not " + got, want.size() == 60 && want.equals(got));
    for (Field f : CrankBranches.class.getDeclaredFields()) {
      boolean told = f.getName().equals("NONE") || f.getName().equals("NOTHING");
      yes("rule 1: " + f.getName(), told ? Modifier.isPublic(f.getModifiers()) : Modifier.isPrivate(f.getModifiers()));
    }
    yes("rule 1: final", Modifier.isFinal(CrankBranches.class.getModifiers()));
  }

  private static boolean isPublicOrPrivate(int modifiers) {
    return Modifier.isPublic(modifiers) || Modifier.isPrivate(modifiers);
  }

  /** Rules 1, 2, 5, 11. */
  private void members() {
    TreeSet<String> face = new TreeSet<>();
    for (Method m : CrankBranches.class.getDeclaredMethods()) {
      if (Modifier.isPublic(m.getModifiers())) {
        face.add(m.getName());
      }
    }
    yes("rule 11: at most twelve classes", classes().size() <= 12);
    for (Class<?> one : classes()) {
      int fields = 0;
      for (Field f : one.getDeclaredFields()) {
        yes("rule 5: " + f, !Modifier.isStatic(f.getModifiers()) || Modifier.isFinal(f.getModifiers()));
        fields += Modifier.isStatic(f.getModifiers()) ? 0 : 1;
      }
      yes("rule 11: fields of " + one, fields <= 20);
      yes("rule 1: " + one, one == CrankBranches.class || Modifier.isStatic(one.getModifiers()));
      yes("rule 2: " + one + " holds no class", one == CrankBranches.class || one.getDeclaredClasses().length == 0);
      for (Method m : one.getDeclaredMethods()) {
        yes("rule 11: " + m, m.getParameterCount() <= 7);
        boolean own = one == CrankBranches.class && Modifier.isPublic(m.getModifiers());
        yes("rule 1: the name of " + m, own || !face.contains(m.getName()));
      }
    }
  }

  /** Rules 2, 3, 4, 6, 11: words that have no place in the text, and how long a method is. */
  private void text() throws Exception {
    int start = 0;
    int number = 0;
    for (String line : Files.readAllLines(SOURCE)) {
      number++;
      String code = line.replaceAll("^\\s*(/?\\*|//).*", "");
      for (String word : NEVER) {
        yes("line " + number + " has " + word, !code.contains(word));
      }
      yes("line " + number + " imports", !code.startsWith("import ") || IMPORTS.contains(code));
      yes("line " + number + " is short", line.length() <= 120);
      yes("line " + number + " has signs of its own", line.chars().allMatch(c -> c >= 32 && c < 127));
      if (code.matches("\\s+(public|private|static|[a-z]\\S*) .*\\(.*\\{")) {
        start = number;
      }
      yes("line " + number + " ends a method of sixty lines", !code.matches("    (    )?}") || number - start <= 60);
      start = code.matches("    (    )?}") ? number : start;
    }
  }
}
