import java.lang.reflect.InvocationTargetException;
import java.lang.reflect.Method;
import java.util.ArrayList;
import java.util.Arrays;
import java.util.HashMap;
import java.util.List;
import java.util.Map;
import java.util.NoSuchElementException;
import java.util.Set;

/** What the tests of single sentences share: calls by name, with the answer and the TROUBLE that are due. */
abstract class Sentences {
  static final int NONE = -1;
  static final int NOTHING = -1000000000;
  static final long LOW = Long.MIN_VALUE;
  /** Told in place of an answer, where a call throws NoSuchElementException. */
  static final long THROWS = 777777777777777777L;

  /** A crank that goes round: 40 ANGLES are LAWFUL, none is DEAD. */
  static final String ROUND = "bars ground 6 crank 2 rod 5 arm 5";
  /** It can't be BUILT: nothing is LAWFUL. */
  static final String APART = "bars ground 18 crank 1 rod 1 arm 1";
  /** S is 0 at 19, and K, too; DEAD at 39; LAWFUL at all others. */
  static final String RHOMBUS = "bars ground 3 crank 3 rod 3 arm 3";
  /** Two ARCS: LAWFUL from 9 to 13 and from 25 to 29, nowhere DEAD. */
  static final String ARCS = "bars ground 4 crank 4 rod 1 arm 5";
  /** DEAD at 9, 29 and 39, LAWFUL from 29 by 39 to 9. */
  static final String STOPS = "bars ground 4 crank 3 rod 6 arm 1";
  /** LAWFUL at 19 alone, where it is DEAD. */
  static final String FLAT = "bars ground 3 crank 1 rod 1 arm 1";
  /**
   * A CURVE of few points: in BRANCH 1 (39, -41) at 14, (50, -40) at 15, (39, 34) at 23, (39, 41) at 24, of
   * which the third is on the EDGE from the last to the first.
   */
  static final String TOUCH = "bars ground 6 crank 6 rod 1 arm 5;tracer 3 7";
  /** As much of every sort as there is room for; what the LINKAGES are stands above. */
  static final String FULL = ROUND + ";" + APART + ";" + RHOMBUS + ";" + ARCS
      + ";tracer 10 0;tracer 0 0;tracer -5 10;tracer 20 -20"
      + ";point 20 30;point 0 -20;point 0 0;point 999 -999;point 1 1;point 2 2;point 3 3;point -999 999"
      + ";pair 1 1 1 1;pair 0 1 0 1;pair 1 2 0 1;pair -5 0 -0 5";

  /** Calls of which no number is told: they leave TROUBLE. */
  private static final Set<String> NEVER_REFUSED =
      Set.of("feed", "fault", "where", "angles", "unbuilt", "size", "trouble");
  private static final Map<String, Method> FACE = new HashMap<>();

  static {
    for (Method method : CrankBranches.class.getMethods()) {
      FACE.put(method.getName(), method);
    }
  }

  private final List<String> wrong = new ArrayList<>();
  private int asked = 0;

  final List<String> wrong() {
    return wrong;
  }

  final int asked() {
    return asked;
  }

  final void due(String what, long got, long want) {
    asked++;
    if (got != want) {
      wrong.add(what + " answered " + got + ", due is " + want);
    }
  }

  static CrankBranches desk(String text) {
    return Check.with(text);
  }

  static CrankBranches bars(int g, int a, int b, int c) {
    return Check.with("bars ground " + g + " crank " + a + " rod " + b + " arm " + c);
  }

  /** What a call answers; a boolean counts 1 or 0. */
  final long answer(CrankBranches x, String name, Object... values) {
    try {
      Object got = FACE.get(name).invoke(x, values);
      return got instanceof Boolean ? ((Boolean) got ? 1 : 0) : ((Number) got).longValue();
    } catch (InvocationTargetException e) {
      if (!(e.getCause() instanceof NoSuchElementException)) {
        wrong.add(name + Arrays.toString(values) + " threw " + e.getCause());
      }
      return THROWS;
    } catch (IllegalAccessException e) {
      throw new IllegalStateException(e);
    }
  }

  /** A call that is not refused. */
  final void is(CrankBranches x, long want, String name, Object... values) {
    due(name + Arrays.toString(values), answer(x, name, values), want);
    if (!NEVER_REFUSED.contains(name)) {
      due("trouble() behind " + name + Arrays.toString(values), x.trouble(), 0);
    }
  }

  /** A call that is refused by a number. */
  final void no(CrankBranches x, long want, int number, String name, Object... values) {
    due(name + Arrays.toString(values), answer(x, name, values), want);
    due("trouble() behind " + name + Arrays.toString(values), x.trouble(), number);
  }

  /** The answers of a call, the last of its arguments 0, 1, 2 and so on. */
  final void are(CrankBranches x, long[] wants, String name, Object... values) {
    Object[] all = Arrays.copyOf(values, values.length + 1);
    for (int i = 0; i < wants.length; i++) {
      all[values.length] = i;
      is(x, wants[i], name, all);
    }
  }

  /**
   * Each of the arguments alone, all others 0 and false, is refused by 1 where it is too small or too large
   * (of as many as are counted), and isn't where it is the first or the last.
   */
  final void onlyWithin(CrankBranches x, long refused, String name, int... counts) {
    for (int i = 0; i < counts.length; i++) {
      for (int stray : new int[] {Integer.MIN_VALUE, -1, counts[i], Integer.MAX_VALUE}) {
        no(x, refused, 1, name, values(name, i, stray));
      }
      for (int fit : new int[] {0, counts[i] - 1}) {
        Object[] values = values(name, i, fit);
        answer(x, name, values);
        due("1 by " + name + Arrays.toString(values), x.trouble() == 1 ? 1 : 0, 0);
      }
    }
  }

  private static Object[] values(String name, int at, int value) {
    Class<?>[] types = FACE.get(name).getParameterTypes();
    Object[] values = new Object[types.length];
    for (int i = 0; i < types.length; i++) {
      values[i] = types[i] == boolean.class ? (Object) false : (Object) (i == at ? value : 0);
    }
    return values;
  }

  /** A fraction told by a call whose last argument asks for the lower WHOLE. */
  final void fraction(CrankBranches x, long upper, long lower, String name, Object... values) {
    Object[] all = Arrays.copyOf(values, values.length + 1);
    all[values.length] = false;
    is(x, upper, name, all);
    all[values.length] = true;
    is(x, lower, name, all);
  }
}
