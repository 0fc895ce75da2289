import java.util.ArrayList;
import java.util.List;

/**
 * A change to the class by which a sentence doesn't hold any more. In src/test/breaks.txt, breaks are parted by
 * empty lines: the names of tests; then, once or more often, a line behind @ (where to look from: the first line
 * with these words), lines behind - (what to change there) and lines behind + (to what).
 */
final class Break {
  final int line;
  final List<String> tests = new ArrayList<>();
  /** Each of them from, before, after. */
  private final List<String[]> edits = new ArrayList<>();

  private Break(int line) {
    this.line = line;
  }

  static List<Break> read(List<String> lines) {
    List<Break> all = new ArrayList<>();
    Break now = null;
    for (int i = 0; i < lines.size(); i++) {
      String text = lines.get(i).strip();
      if (text.isEmpty()) {
        now = null;
      } else if (!text.startsWith("#")) {
        if (now == null) {
          now = new Break(i + 1);
          all.add(now);
        }
        now.take(text);
      }
    }
    return all;
  }

  private void take(String text) {
    char sign = text.charAt(0);
    String rest = text.substring(1).strip();
    if (sign == '@') {
      edits.add(new String[] {rest, "", ""});
    } else if (sign == '-' || sign == '+') {
      String[] edit = edits.get(edits.size() - 1);
      int at = sign == '-' ? 1 : 2;
      edit[at] = edit[at].isEmpty() ? rest : edit[at] + "\n" + rest;
    } else {
      tests.add(text);
    }
  }

  /** The changed text; null if there is nothing to change. */
  String appliedTo(String source) {
    String text = source;
    for (String[] edit : edits) {
      int from = text.indexOf(edit[0]);
      int at = from < 0 ? -1 : text.indexOf(edit[1], from);
      if (at < 0 || edit[1].equals(edit[2])) {
        return null;
      }
      text = text.substring(0, at) + edit[2] + text.substring(at + edit[1].length());
    }
    return edits.isEmpty() ? null : text;
  }
}
