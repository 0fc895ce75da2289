import java.lang.reflect.InvocationTargetException;
import java.lang.reflect.Method;
import java.util.Arrays;
import java.util.Random;

/** Runs of chance calls (the same ones each time) on the class and on the model: they must answer alike. */
public final class AgainstModelTest {
  /** A name of the face, and what its arguments are (see argument()). */
  private static final String[] CALLS = {
      "fault", "where", "angles", "angle k2", "which tt", "bar l4", "sums l", "kind l", "round l4",
      "least lz", "most lz", "ends l", "arcs l", "circuits l", "lawful lk", "lawfuls l", "deads l",
      "between lk", "span lkz", "under lk", "joint lkb2", "exact lkb6", "circuit lkb", "force lkz",
      "easiest l", "swing lzz", "rate lkb3", "tracer i2", "point o2", "traced likb2", "box lib4",
      "area lib", "crossings lib", "hull lib", "corner libp", "hullArea lib", "straight libh",
      "straightFrom libh", "near libop", "miss libo", "met libo", "best lb", "pair i4", "closing liz",
      "fit 3", "fitMiss z", "three 3z", "begin lkb", "walk 4", "steps n", "flip", "away kb",
      "reshape l4L", "undo", "unbuilt i", "size 6", "trouble",
      "begin lkb", "steps n", "steps n", "flip", "flip", "away kb", "reshape l4L", "undo"};

  /** What later calls of an object answer is free. */
  private static final int PROMISED = 512;
  /** As many calls as a text of 700 bytes needs, and those that are made behind it. */
  private static final int LOADING = 45;

  private final Random chance;
  private final Check check;
  private CrankBranches real = new CrankBranches();
  private Model model = new Model();
  private int calls = 0;

  private AgainstModelTest(long seed, Check check) {
    this.chance = new Random(seed);
    this.check = check;
  }

  public static void main(String[] args) throws Exception {
    int runs = args.length > 0 ? Integer.parseInt(args[0]) : 240;
    long first = args.length > 1 ? Long.parseLong(args[1]) : 1;
    Check check = new Check();
    for (long seed = first; seed < first + runs; seed++) {
      new AgainstModelTest(seed, check).run();
    }
    check.end();
  }

  private int below(int bound) {
    return chance.nextInt(bound);
  }

  private void run() throws Exception {
    int most = PROMISED - LOADING - below(300);
    if (below(10) > 0) {
      load();
    }
    while (calls < most) {
      call();
      if (below(100) == 0) {
        load();
      }
    }
    check.due("calls of one object", calls <= PROMISED, true);
  }

  private void load() throws Exception {
    String text = text();
    for (int from = 0; from < text.length(); from += 20) {
      Object[] numbers = new Object[5];
      for (int i = 0; i < 5; i++) {
        numbers[i] = Check.number(text, from + 4 * i);
      }
      both("feed", numbers);
    }
    int n = text.length();
    if (below(12) == 0) {
      n += below(60) - 30;
    }
    both("desk", n);
    both("trouble");
    both("fault");
    both("where");
    both("size", 5);
  }

  private String text() {
    StringBuilder out = new StringBuilder();
    int[] rooms = {1 + below(4), below(5), below(9), below(5)};
    if (below(15) == 0) {
      rooms[below(4)] += below(6);
    }
    while (Arrays.stream(rooms).sum() > 0) {
      int sort = below(4);
      if (rooms[sort] > 0) {
        rooms[sort]--;
        line(out, sort);
        if (Arrays.stream(rooms).sum() > 0) {
          out.append(blanks(0)).append(';');
        }
      }
    }
    if (below(4) == 0) {
      spoil(out);
    }
    return out.toString();
  }

  private String blanks(int least) {
    return " ".repeat(below(8) == 0 ? least + below(3) : least);
  }

  private void line(StringBuilder out, int sort) {
    out.append(blanks(0)).append(new String[] {"bars", "tracer", "point", "pair"}[sort]);
    if (sort == 0) {
      int most = below(3) == 0 ? 18 : 2 + below(7);
      for (String name : new String[] {"ground", "crank", "rod", "arm"}) {
        out.append(blanks(1)).append(name).append(blanks(1)).append(1 + below(most));
      }
    } else if (sort == 1) {
      signed(out, below(4) == 0 ? 0 : below(21));
      signed(out, below(3) == 0 ? 0 : below(21));
    } else if (sort == 2) {
      boolean far = below(3) == 0;
      signed(out, far ? below(1000) : 10 * below(10));
      signed(out, far ? below(1000) : 10 * below(4));
    } else {
      for (int i = 0; i < 2; i++) {
        int p = below(6);
        signed(out, p);
        out.append(blanks(1)).append(p == 0 ? 1 + below(5) : below(6));
      }
    }
  }

  private void signed(StringBuilder out, int value) {
    out.append(blanks(1)).append(below(3) == 0 ? "-" : "").append(blanks(0)).append(value);
  }

  private void spoil(StringBuilder out) {
    String signs = "barsgoundckteipm0123456789;- A{/:`\u0000\u00ff";
    for (int i = 1 + below(2); i > 0; i--) {
      int at = below(out.length());
      char sign = signs.charAt(below(signs.length()));
      switch (below(4)) {
        case 0: out.setCharAt(at, sign); break;
        case 1: out.insert(at, sign); break;
        case 2: out.insert(at, out.charAt(at)); break;
        default: out.deleteCharAt(at);
      }
      if (out.length() == 0) {
        return;
      }
    }
    if (below(4) == 0) {
      out.setLength(below(out.length()));
    }
  }

  private void call() throws Exception {
    String[] spec = CALLS[below(CALLS.length)].split(" ");
    String kinds = spec.length > 1 ? spec[1] : "";
    Object[] values = new Object[kinds.length()];
    for (int i = 0; i < values.length; i++) {
      values[i] = argument(kinds.charAt(i));
    }
    both(spec[0], values);
    both("trouble");
  }

  private Object argument(char kind) {
    int stray = below(60);
    if (stray == 0 && kind != 'z') {
      return new int[] {Integer.MIN_VALUE, Integer.MAX_VALUE, -1, 1000}[below(4)];
    }
    switch (kind) {
      case 'l': return within(model.size(0), stray);
      case 'i': return within(4, stray);
      case 'o': return within(model.size(2), stray);
      case 'k': return within(40, stray);
      case 'b': return within(2, stray);
      case 'p': return below(3) == 0 ? below(40) : below(8);
      case 'h': return below(30) == 0 ? 101 : below(3) == 0 ? below(101) : below(8);
      case 't': return below(13) - 6;
      case 'n': return below(4) == 0 ? below(203) - 101 : below(9) - 4;
      case 'L': return below(20);
      case 'z': return chance.nextBoolean();
      default: return within(kind - '0', stray);
    }
  }

  private int within(int count, int stray) {
    return stray == 1 || count < 1 ? count : stray == 2 ? -1 : below(count);
  }

  private void both(String name, Object... values) throws Exception {
    calls++;
    check.due(name + Arrays.toString(values), answer(real, name, values), answer(model, name, values));
  }

  private static long answer(Object object, String name, Object[] values) throws Exception {
    Class<?>[] types = new Class<?>[values.length];
    for (int i = 0; i < types.length; i++) {
      types[i] = values[i] instanceof Boolean ? boolean.class : int.class;
    }
    Method method = object.getClass().getDeclaredMethod(name, types);
    try {
      Object got = method.invoke(object, values);
      return got instanceof Boolean ? (Boolean) got ? 1 : 0 : ((Number) got).longValue();
    } catch (InvocationTargetException e) {
      if (e.getCause() instanceof java.util.NoSuchElementException) {
        return 777777777777L;
      }
      throw e;
    }
  }
}
