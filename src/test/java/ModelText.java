import java.util.ArrayList;
import java.util.List;
import java.util.regex.Matcher;
import java.util.regex.Pattern;

/** The text of a desk, parted into tokens first and looked through then, for the model. */
final class ModelText {
  private static final Pattern TOKEN = Pattern.compile("[a-z]+|[0-9]+|[;-]|[^ ]");
  private static final String[] BARS = {"ground", "crank", "rod", "arm"};

  final List<int[]> bars = new ArrayList<>();
  final List<int[]> tracers = new ArrayList<>();
  final List<int[]> points = new ArrayList<>();
  final List<int[]> pairs = new ArrayList<>();
  int fault = 0;
  int place = -1;

  private final List<String> tokens = new ArrayList<>();
  private final List<Integer> places = new ArrayList<>();
  private int at = 0;

  private static final class Stop extends RuntimeException {
    private static final long serialVersionUID = 1;
  }

  ModelText(String text) {
    Matcher m = TOKEN.matcher(text);
    while (m.find()) {
      tokens.add(m.group());
      places.add(m.start());
    }
    tokens.add("");
    places.add(text.length());
    try {
      read();
    } catch (Stop stop) {
      at = 0;
    }
  }

  private Stop stop(int number) {
    fault = number;
    place = places.get(at);
    return new Stop();
  }

  private String token() {
    return tokens.get(at);
  }

  private void read() {
    line();
    while (token().equals(";")) {
      at++;
      line();
    }
    if (!token().isEmpty()) {
      throw stop(1);
    }
    if (bars.isEmpty()) {
      throw stop(4);
    }
  }

  private void line() {
    switch (token()) {
      case "bars":
        first(bars, 4);
        int[] bar = new int[4];
        for (int i = 0; i < 4; i++) {
          if (!token().equals(BARS[i])) {
            throw stop(1);
          }
          at++;
          bar[i] = whole(1, 18);
        }
        bars.add(bar);
        break;
      case "tracer":
        first(tracers, 4);
        tracers.add(new int[] {signed(20), signed(20)});
        break;
      case "point":
        first(points, 8);
        points.add(new int[] {signed(999), signed(999)});
        break;
      case "pair":
        first(pairs, 4);
        int p = signed(5);
        int q = whole(p == 0 ? 1 : 0, 5);
        int armP = signed(5);
        pairs.add(new int[] {p, q, armP, whole(armP == 0 ? 1 : 0, 5)});
        break;
      default:
        throw stop(1);
    }
  }

  private void first(List<int[]> rows, int room) {
    if (rows.size() == room) {
      throw stop(3);
    }
    at++;
  }

  private int signed(int most) {
    if (token().equals("-")) {
      at++;
      return -whole(0, most);
    }
    return whole(0, most);
  }

  private int whole(int least, int most) {
    if (!token().matches("[0-9]{1,3}")) {
      throw stop(1);
    }
    int value = Integer.parseInt(token());
    if (value < least || value > most) {
      throw stop(2);
    }
    at++;
    return value;
  }
}
