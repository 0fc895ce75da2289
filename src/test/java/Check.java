/** What all tests share: counting wrong answers, and feeding a text to a desk. */
final class Check {
  private int asked = 0;
  private int wrong = 0;

  void due(String call, long got, long want) {
    asked++;
    if (got != want) {
      wrong++;
      System.out.println(call + " answered " + got + ", due is " + want);
    }
  }

  void due(String call, boolean got, boolean want) {
    due(call, got ? 1L : 0L, want ? 1L : 0L);
  }

  /** A refused call, and then its TROUBLE. */
  void refused(String call, CrankBranches x, long got, long want, int trouble) {
    due(call, got, want);
    due("trouble() behind " + call, x.trouble(), trouble);
  }

  void end() {
    System.out.println(asked + " answers, " + wrong + " wrong");
    if (wrong != 0) {
      System.exit(1);
    }
  }

  /** The number whose four bytes, the highest first, are these of the text (blanks behind its end). */
  static int number(String text, int from) {
    int number = 0;
    for (int i = from; i < from + 4; i++) {
      number = number << 8 | (i < text.length() ? text.charAt(i) & 255 : ' ');
    }
    return number;
  }

  static void feed(CrankBranches x, String text) {
    for (int from = 0; from < text.length(); from += 20) {
      x.feed(number(text, from), number(text, from + 4), number(text, from + 8),
          number(text, from + 12), number(text, from + 16));
    }
  }

  static int desk(CrankBranches x, String text) {
    feed(x, text);
    return x.desk(text.length());
  }

  static CrankBranches with(String text) {
    CrankBranches x = new CrankBranches();
    if (desk(x, text) < 1) {
      throw new IllegalStateException("no desk: " + text);
    }
    return x;
  }
}
