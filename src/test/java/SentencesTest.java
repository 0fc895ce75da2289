import java.lang.reflect.InvocationTargetException;
import java.lang.reflect.Method;
import java.util.ArrayList;
import java.util.Arrays;
import java.util.Comparator;
import java.util.List;

/**
 * Runs the tests of single sentences of the document, each of which is named by its promise and says its
 * words. With the argument "list" it tells them, with "rest" what no test says.
 */
public final class SentencesTest {
  static final List<Class<? extends Sentences>> ALL =
      List.of(DeskSentences.class, TurnSentences.class, LinkageSentences.class,
          PositionSentences.class, CurveSentences.class, PairSentences.class, WalkSentences.class,
          ToldSentences.class);
  private static final int PROMISES = 60;

  private final Document document = new Document();
  private int tests = 0;
  private int answers = 0;
  private int wrong = 0;

  private SentencesTest() throws java.io.IOException {
  }

  public static void main(String[] args) throws Exception {
    SentencesTest test = new SentencesTest();
    if (args.length > 0) {
      test.tell(args[0]);
      return;
    }
    for (Method method : methods()) {
      test.run(method);
    }
    test.everyPromise();
    System.out.println(test.tests + " sentences, " + test.answers + " answers, " + test.wrong + " wrong");
    if (test.wrong != 0) {
      System.exit(1);
    }
  }

  /** All tests of sentences, by their names. */
  static List<Method> methods() {
    List<Method> found = new ArrayList<>();
    for (Class<?> one : ALL) {
      for (Method method : one.getDeclaredMethods()) {
        if (method.isAnnotationPresent(Says.class)) {
          found.add(method);
        }
      }
    }
    found.sort(Comparator.comparing(Method::getName));
    return found;
  }

  /** What is wrong by a test that is told by its name. */
  public static List<String> wrongBy(String name) throws Exception {
    for (Method method : methods()) {
      if (method.getName().equals(name)) {
        return wrongBy(method, new int[1]);
      }
    }
    throw new IllegalArgumentException("there is no test " + name);
  }

  private static List<String> wrongBy(Method method, int[] asked) throws Exception {
    Sentences object = (Sentences) method.getDeclaringClass().getDeclaredConstructor().newInstance();
    try {
      method.invoke(object);
    } catch (InvocationTargetException e) {
      object.wrong().add("it threw " + e.getCause());
    }
    asked[0] += object.asked();
    return object.wrong();
  }

  private void run(Method method) throws Exception {
    Says says = method.getAnnotation(Says.class);
    int[] asked = {0};
    tests++;
    for (String line : wrongBy(method, asked)) {
      fail(method.getName() + ", of \"" + says.words() + "\": " + line);
    }
    answers += asked[0];
    if (asked[0] == 0) {
      fail(method.getName() + " asks nothing");
    }
    if (!method.getName().startsWith(String.format("p%02d_", says.promise()))) {
      fail(method.getName() + " is not named by promise " + says.promise());
    }
    if (!document.has(says)) {
      fail(method.getName() + ": the document doesn't say \"" + says.words() + "\" there");
    }
  }

  private void fail(String line) {
    wrong++;
    System.out.println(line);
  }

  private static List<String> words(int promise, String term) {
    List<String> found = new ArrayList<>();
    for (Method method : methods()) {
      Says says = method.getAnnotation(Says.class);
      if (says.term().equals(term) && (promise < 0 || says.promise() == promise)) {
        found.add(says.words());
      }
    }
    return found;
  }

  /** Every promise has a test, and every refusal that a promise tells is among the words of its tests. */
  private void everyPromise() {
    for (int number = 1; number <= PROMISES; number++) {
      int promise = number;
      if (methods().stream().noneMatch(m -> m.getAnnotation(Says.class).promise() == promise)) {
        fail("promise " + number + " has no test");
      }
      for (String rest : document.untested(number, words(number, ""))) {
        fail("promise " + number + " has no test of \"" + rest + "\"");
      }
    }
  }

  private void tell(String what) {
    for (Method method : methods()) {
      Says says = method.getAnnotation(Says.class);
      if (what.equals("list")) {
        String place = says.term().isEmpty() ? "" : " (Terms " + says.term() + ")";
        System.out.println(method.getName() + place + ": \"" + says.words() + "\"");
      }
    }
    if (what.equals("rest")) {
      for (int number = 1; number <= PROMISES; number++) {
        System.out.println(number + ": " + document.rest(number, "", words(number, "")));
      }
      for (String term : Arrays.asList("I", "II", "III", "IV")) {
        System.out.println(term + ": " + document.rest(0, term, words(-1, term)));
      }
    }
  }
}
