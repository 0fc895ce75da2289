import java.lang.reflect.Method;
import java.nio.file.Files;
import java.nio.file.Path;
import java.util.ArrayList;
import java.util.Collections;
import java.util.List;
import java.util.TreeSet;

/**
 * Every test of a sentence must fail when the sentence doesn't hold: each break of src/test/breaks.txt is done to
 * a copy of the class, and the tests that it names are run on that copy.
 */
public final class BreaksTest {
  private static final Path SOURCE = Path.of("src/main/java/CrankBranches.java");
  private static final Path BREAKS = Path.of("src/test/breaks.txt");

  private final String source;
  private final List<String> wrong = Collections.synchronizedList(new ArrayList<>());

  private BreaksTest() throws java.io.IOException {
    source = plain(Files.readAllLines(SOURCE));
  }

  public static void main(String[] args) throws Exception {
    BreaksTest test = new BreaksTest();
    List<Break> breaks = Break.read(Files.readAllLines(BREAKS));
    test.everyTestIsNamed(breaks);
    breaks.parallelStream().forEach(test::run);
    test.wrong.stream().sorted().forEach(System.out::println);
    System.out.println(breaks.size() + " breaks, " + test.wrong.size() + " wrong");
    if (!test.wrong.isEmpty()) {
      System.exit(1);
    }
  }

  /** Without indentation, so that breaks may be written without it. */
  static String plain(List<String> lines) {
    StringBuilder out = new StringBuilder();
    for (String line : lines) {
      out.append(line.strip()).append('\n');
    }
    return out.toString();
  }

  private void everyTestIsNamed(List<Break> breaks) {
    TreeSet<String> left = new TreeSet<>();
    for (Method method : SentencesTest.methods()) {
      left.add(method.getName());
    }
    TreeSet<String> named = new TreeSet<>();
    for (Break one : breaks) {
      for (String name : one.tests) {
        if (!left.contains(name)) {
          wrong.add("line " + one.line + ": there is no test " + name);
        }
        named.add(name);
      }
    }
    left.removeAll(named);
    for (String name : left) {
      wrong.add("no break is told for " + name);
    }
  }

  private void run(Break one) {
    String place = "line " + one.line + " of " + BREAKS.getFileName() + ": ";
    try {
      String broken = one.appliedTo(source);
      if (broken == null) {
        wrong.add(place + "what it changes isn't in the class");
        return;
      }
      Copy copy = new Copy(broken);
      for (String name : one.tests) {
        if (copy.wrongBy(name).isEmpty()) {
          wrong.add(place + name + " doesn't see it");
        }
      }
    } catch (Exception e) {
      wrong.add(place + e);
    }
  }
}
