import java.util.NoSuchElementException;

/** Each promise of the document by its number: ordinary inputs, edges and wrong inputs. */
public final class PromisesTest {
  private static final long LOW = Long.MIN_VALUE;
  private static final int NOTHING = CrankBranches.NOTHING;

  /** 0 goes round; 1 can't be built; 2 a rhombus; 3 has two arcs. */
  private static final String FOUR = "bars ground 6 crank 2 rod 5 arm 5;bars ground 18 crank 1 rod 1 arm 1;"
      + "bars ground 3 crank 3 rod 3 arm 3;bars ground 4 crank 4 rod 1 arm 5";
  private static final String ALL = FOUR + ";tracer 10 0;tracer 0 0;tracer -5 10;point 20 30;point 0 -20;"
      + "point 0 0;pair 1 1 1 1;pair 0 1 0 1;pair 1 2 0 1";
  /** 0 stops dead at a quarter and at half a turn; 1 lies flat in its one position. */
  private static final String STOPS = "bars ground 4 crank 3 rod 6 arm 1;bars ground 3 crank 1 rod 1 arm 1;"
      + "tracer 10 0;point 20 0;point 21 0";

  private final Check check = new Check();

  public static void main(String[] args) {
    PromisesTest test = new PromisesTest();
    test.desks();
    test.faults();
    test.turn();
    test.lengths();
    test.cosines();
    test.positions();
    test.joints();
    test.forces();
    test.told();
    test.curves();
    test.hulls();
    test.straights();
    test.misses();
    test.pairs();
    test.fits();
    test.walks();
    test.acts();
    test.unbuilts();
    test.troubles();
    test.refusals();
    test.check.end();
  }

  private void due(String call, long got, long want) {
    check.due(call, got, want);
  }

  // promises 1, 2, 3, 59: a new object, feed, desk, size
  private void desks() {
    CrankBranches x = new CrankBranches();
    for (int what = 0; what < 6; what++) {
      due("1, 59: new size(" + what + ")", x.size(what), 0);
    }
    due("59: size(-1)", x.size(-1), -1);
    due("59: size(6)", x.size(6), -1);
    due("1: new trouble()", x.trouble(), 0);
    due("1: new fault()", x.fault(), 0);
    due("1: new where()", x.where(), -1);
    for (int i = 1; i <= 35; i++) {
      due("2: feed " + i, x.feed(i, -1, 0, 1, 2), 20 * i);
    }
    due("2: feed 36", x.feed(1, 2, 3, 4, 5), -1);
    due("2: no byte came", x.size(5), 700);
    due("2: feed isn't refused by a number", x.trouble(), 0);
    check.refused("3: desk(701)", x, x.desk(701), -1, 2);
    check.refused("3: desk(-1)", x, x.desk(-1), -1, 2);
    due("3: the tape stays", x.size(5), 700);
    due("4: no fault by 2", x.fault(), 0);
    check.refused("3: desk(700)", x, x.desk(700), -1, 4);
    due("3: the tape is empty", x.size(5), 0);
    due("5: where()", x.where(), 0);
    due("3: desk", Check.desk(x, ALL), 4);
    due("60: trouble()", x.trouble(), 0);
    int[] sizes = {4, 3, 3, 3, 0, 0};
    for (int what = 0; what < 6; what++) {
      due("59: size(" + what + ")", x.size(what), sizes[what]);
    }
    x.reshape(0, 0, 5);
    x.begin(0, 0, 0);
    due("3: a text with a fault", Check.desk(x, "bars"), -1);
    due("3: the desk stays", x.size(0), 4);
    due("3: its acts stay", x.size(4), 1);
    due("3: its walk stays", x.walk(0), 0);
    due("3: another desk, of the first bytes alone", deskOf(x, STOPS + ";bars", STOPS.length()), 2);
    due("3: the tape is empty", x.size(5), 0);
    due("3: nothing to undo", x.size(4), 0);
    check.refused("3: no walk", x, x.walk(0), -1, 5);
    due("3: its bars", x.bar(0, 2), 6);
    due("3: its tracers", x.size(1), 1);
    due("3: its pairs", x.size(3), 0);
  }

  private static int deskOf(CrankBranches x, String text, int n) {
    Check.feed(x, text);
    return x.desk(n);
  }

  // promises 3, 4, 5, terms I: faults and their places
  private void faults() {
    String bars = "bars ground 1 crank 1 rod 1 arm 1";
    fine(bars);
    fine("  bars   ground 018crank 1rod 1arm1   ");
    fine("point-999-999;" + bars + ";point 999 999;tracer - 20 20;pair -5 0 0 5;pair 0 1-0 1");
    fault("", 1, 0);
    fault("   ", 1, 3);
    fault("Bars", 1, 0);
    fault("bar", 1, 0);
    fault("barsx ground 1", 1, 0);
    fault("barsa ground 1", 1, 0);
    fault("barsz ground 1", 1, 0);
    fault("bars,ground 1", 1, 4);
    fault("bars groundxx 1", 1, 5);
    fault("bars ground", 1, 11);
    fault("bars ground ", 1, 12);
    fault("bars ground -1", 1, 12);
    fault("bars ground x", 1, 12);
    fault("bars ground 1 rod 1", 1, 14);
    fault("bars ground 0", 2, 12);
    fault("bars ground 000", 2, 12);
    fault("bars ground 19", 2, 12);
    fault("bars ground 0001", 1, 12);
    fault("bars ground 1 crank 19 x", 2, 20);
    fault(bars + " 1", 1, 34);
    fault(bars + "9", 2, 32);
    fault(bars + ";", 1, 34);
    fault(bars + ";;", 1, 34);
    fault(bars + "; ", 1, 35);
    fault(";" + bars, 1, 0);
    fault("tracer 20 -20", 4, 13);
    fault("tracer 20 -20  ", 4, 15);
    fault("tracer -21 0", 2, 8);
    fault("tracer 0 21", 2, 9);
    fault("tracer 0 - - 1", 1, 11);
    fault("tracer 1", 1, 8);
    fault("point 1000 0", 1, 6);
    fault("point 0 -1000", 1, 9);
    fault("pair 6 1 1 1", 2, 5);
    fault("pair -6 1 1 1", 2, 6);
    fault("pair 1 6 1 1", 2, 7);
    fault("pair 1 -1 1 1", 1, 7);
    fault("pair 0 0 1 1", 2, 7);
    fault("pair -0 0 1 1", 2, 8);
    fault("pair 1 0 0 0", 2, 11);
    fault("pair 1 0 1", 1, 10);
    fault("pair 1 0 1 0 1", 1, 13);
    many(bars, 4);
    many("tracer 1 1", 4);
    many("point 1 1", 8);
    many("pair 1 1 1 1", 4);
    CrankBranches x = new CrankBranches();
    Check.desk(x, "tracer");
    x.bar(0, 0);
    due("5: where() behind another call", x.where(), -1);
    due("4: fault() behind another call", x.fault(), 1);
    x.feed(0, 0, 0, 0, 0);
    x.desk(99);
    due("4: fault() behind a desk refused by 2", x.fault(), 1);
    due("5: where() behind a desk refused by 2", x.where(), -1);
    x.desk(0);
    due("4: fault() of no bytes", x.fault(), 1);
    Check.desk(x, bars);
    due("4: fault() behind a good desk", x.fault(), 0);
    due("5: where() behind a good desk", x.where(), -1);
  }

  private void fine(String text) {
    due("3: desk of '" + text + "'", Check.desk(new CrankBranches(), text), 1);
  }

  private void fault(String text, int fault, int place) {
    CrankBranches x = new CrankBranches();
    check.refused("3: desk of '" + text + "'", x, Check.desk(x, text), -1, 4);
    due("4: fault of '" + text + "'", x.fault(), fault);
    due("5: where of '" + text + "'", x.where(), place);
  }

  private void many(String line, int room) {
    String text = "";
    for (int i = 0; i < room; i++) {
      text += line + ";";
    }
    fault(text + " " + line.substring(0, line.indexOf(' ')) + " 0 0 0", 3, text.length() + 1);
  }

  // promises 6, 7, 8
  private void turn() {
    CrankBranches x = new CrankBranches();
    due("6: angles()", x.angles(), 40);
    int[][] some = {{0, -5, 1}, {3, -5, 2}, {9, -1, 1}, {14, -1, 2}, {19, 0, 1}, {20, 1, 5}, {25, 3, 5},
        {29, 1, 1}, {30, 5, 4}, {38, 5, 1}, {39, 1, 0}};
    for (int[] row : some) {
      due("7: angle p", x.angle(row[0], 0), row[1]);
      due("7: angle q", x.angle(row[0], 1), row[2]);
    }
    for (int k = 0; k < 40; k++) {
      due("8: which of angle " + k, x.which(x.angle(k, 0), x.angle(k, 1)), k);
      due("8: which, signs turned, " + k, x.which(-x.angle(k, 0), -x.angle(k, 1)), k);
    }
    due("60: trouble()", x.trouble(), 0);
    due("8: which(4, 2)", x.which(4, 2), x.which(2, 1));
    due("8: which(0, -5)", x.which(0, -5), 19);
    due("8: which(5, 0)", x.which(5, 0), 39);
    check.refused("7: angle(-1, 0)", x, x.angle(-1, 0), NOTHING, 1);
    check.refused("7: angle(40, 0)", x, x.angle(40, 0), NOTHING, 1);
    check.refused("7: angle(0, 2)", x, x.angle(0, 2), NOTHING, 1);
    check.refused("7: angle(0, -1)", x, x.angle(0, -1), NOTHING, 1);
    check.refused("8: which(0, 0)", x, x.which(0, 0), -1, 2);
    check.refused("8: which(6, 1)", x, x.which(6, 1), -1, 2);
    check.refused("8: which(1, -6)", x, x.which(1, -6), -1, 2);
    check.refused("8: which(-6, 1)", x, x.which(-6, 1), -1, 2);
    check.refused("8: which(1, 6)", x, x.which(1, 6), -1, 2);
  }

  private static CrankBranches bars(int g, int a, int b, int c) {
    return Check.with("bars ground " + g + " crank " + a + " rod " + b + " arm " + c);
  }

  // promises 9, 10, 11, 12
  private void lengths() {
    CrankBranches x = Check.with(FOUR);
    int[] want = {4, 4, 1, 5};
    for (int i = 0; i < 4; i++) {
      due("9: bar(3, " + i + ")", x.bar(3, i), want[i]);
    }
    check.refused("9: bar(4, 0)", x, x.bar(4, 0), -1, 1);
    check.refused("9: bar(-1, 0)", x, x.bar(-1, 0), -1, 1);
    check.refused("9: bar(0, 4)", x, x.bar(0, 4), -1, 1);
    check.refused("9: bar(0, -1)", x, x.bar(0, -1), -1, 1);
    int[][] kinds = {{6, 2, 5, 5, 2, 0}, {2, 6, 5, 5, 2, 1}, {5, 6, 2, 5, 2, 2}, {5, 5, 6, 2, 2, 3},
        {3, 3, 3, 3, 0, 4}, {2, 5, 2, 5, 0, 4}, {1, 1, 1, 3, -2, 6}, {1, 1, 1, 4, -3, 5},
        {9, 3, 7, 4, -1, 6}, {18, 1, 1, 1, -17, 5}};
    for (int[] row : kinds) {
      CrankBranches y = bars(row[0], row[1], row[2], row[3]);
      due("10: sums", y.sums(0), row[4]);
      due("11: kind", y.kind(0), row[5]);
    }
    check.refused("10: sums(4)", x, x.sums(4), NOTHING, 1);
    check.refused("11: kind(4)", x, x.kind(4), -1, 1);
    // The least bar goes round at both its joints.
    int[][] rounds = {{6, 2, 5, 5, 1, 1, 0, 0}, {2, 6, 5, 5, 1, 0, 0, 1}, {5, 6, 2, 5, 0, 1, 1, 0},
        {5, 5, 6, 2, 0, 0, 1, 1}, {3, 3, 3, 3, 1, 1, 1, 1}, {9, 3, 7, 4, 0, 0, 0, 0}};
    for (int[] row : rounds) {
      CrankBranches y = bars(row[0], row[1], row[2], row[3]);
      for (int joint = 0; joint < 4; joint++) {
        due("12: round at " + joint, y.round(0, joint), row[4 + joint]);
      }
    }
    check.refused("12: round(0, 4)", x, x.round(0, 4), -1, 1);
    check.refused("12: round(0, -1)", x, x.round(0, -1), -1, 1);
    check.refused("12: round(4, 0)", x, x.round(4, 0), -1, 1);
  }

  // promises 13 to 17, 29: cosines, ends, arcs, circuits, swing
  private void cosines() {
    // g, a, b, c; LEAST, MOST, ends, arcs, circuits
    int[][] rows = {{6, 2, 5, 5, -1, 1, 1, 1, 0, 1, 2}, {3, 3, 3, 3, -1, 1, 1, 1, 2, 1, 1},
        {4, 4, 1, 5, -1, 8, 1, 2, 2, 2, 2}, {4, 3, 6, 1, -1, 1, 0, 1, 2, 1, 1},
        {3, 1, 1, 1, 1, 1, 1, 1, 1, 1, 1}, {1, 1, 1, 3, -1, 1, -1, 1, 1, 1, 1},
        {5, 4, 3, 3, 1, 8, 1, 1, 1, 1, 1}, {2, 3, 2, 4, -1, 1, 3, 4, 1, 1, 1}};
    for (int[] row : rows) {
      CrankBranches x = bars(row[0], row[1], row[2], row[3]);
      due("13: least, upper", x.least(0, false), row[4]);
      due("13: least, lower", x.least(0, true), row[5]);
      due("14: most, upper", x.most(0, false), row[6]);
      due("14: most, lower", x.most(0, true), row[7]);
      due("15: ends", x.ends(0), row[8]);
      due("16: arcs", x.arcs(0), row[9]);
      due("17: circuits", x.circuits(0), row[10]);
      due("60: trouble()", x.trouble(), 0);
    }
    for (int[] row : new int[][] {{18, 1, 1, 1}, {1, 18, 1, 1}, {1, 1, 18, 1}, {1, 1, 1, 4}}) {
      CrankBranches x = bars(row[0], row[1], row[2], row[3]);
      check.refused("13: least of none", x, x.least(0, false), LOW, 5);
      check.refused("14: most of none", x, x.most(0, true), LOW, 5);
      due("15: ends of none", x.ends(0), 0);
      due("16: arcs of none", x.arcs(0), 0);
      due("17: circuits of none", x.circuits(0), 0);
      check.refused("29: swing of none", x, x.swing(0, true, false), LOW, 5);
    }
    CrankBranches x = Check.with(FOUR);
    check.refused("13: least(4)", x, x.least(4, false), LOW, 1);
    check.refused("14: most(-1)", x, x.most(-1, false), LOW, 1);
    check.refused("15: ends(4)", x, x.ends(4), -1, 1);
    check.refused("16: arcs(4)", x, x.arcs(4), -1, 1);
    check.refused("17: circuits(4)", x, x.circuits(4), -1, 1);
    due("29: swing at LEAST, upper", x.swing(0, false, false), -7);
    due("29: swing at LEAST, lower", x.swing(0, false, true), 25);
    due("29: swing at MOST, upper", x.swing(0, true, false), 17);
    due("29: swing at MOST, lower", x.swing(0, true, true), 25);
    due("29: swing at an end, stretched", x.swing(3, false, false), -1);
    due("29: swing at an end, folded", x.swing(3, true, false), 1);
    due("29: swing at an end, lower", x.swing(3, true, true), 1);
    check.refused("29: swing(4)", x, x.swing(4, true, true), LOW, 1);
  }

  // promises 18 to 23, 26
  private void positions() {
    CrankBranches x = Check.with(FOUR);
    int[] lawfuls = {40, 0, 39, 10};
    int[] deads = {0, 0, 1, 0};
    for (int l = 0; l < 4; l++) {
      due("19: lawfuls(" + l + ")", x.lawfuls(l), lawfuls[l]);
      due("20: deads(" + l + ")", x.deads(l), deads[l]);
    }
    due("18: lawful", x.lawful(0, 0), 1);
    due("18: a span of nothing isn't", x.lawful(2, 19), 0);
    due("18: dead", x.lawful(2, 39), 2);
    int[] ends = {8, 13, 24, 29};
    for (int k = 0; k < 40; k++) {
      due("18: two arcs at " + k, x.lawful(3, k), k >= 9 && k <= 13 || k >= 25 && k <= 29 ? 1 : 0);
      due("21: between at " + k, x.between(3, k), java.util.Arrays.binarySearch(ends, k) >= 0 ? 1 : 0);
      due("21: ends at angles are between none", x.between(2, k), 0);
    }
    CrankBranches y = Check.with(STOPS);
    due("20: deads", y.deads(0), 3);
    due("19: lawfuls", y.lawfuls(0), 21);
    due("18: dead at a quarter", y.lawful(0, 29), 2);
    due("18: dead at a quarter back", y.lawful(0, 9), 2);
    due("18: dead at a half", y.lawful(0, 39), 2);
    due("19: flat", y.lawfuls(1), 1);
    due("20: flat", y.deads(1), 1);
    due("21: between of the last one and the first", bars(5, 2, 3, 4).between(0, 39), 0);
    // Both ends of the cosine between those of 5 by 1 (-12 by 13) and half a turn.
    CrankBranches z = bars(9, 9, 16, 1);
    due("21: on", z.between(0, 38), z.between(0, 39));
    due("22: span, upper", x.span(0, 29, false), 40);
    due("22: span, lower", x.span(0, 29, true), 1);
    due("22: span in lowest terms, upper", x.span(0, 24, false), 128);
    due("22: span in lowest terms, lower", x.span(0, 24, true), 5);
    due("22: span of nothing, upper", x.span(2, 19, false), 0);
    due("22: span of nothing, lower", x.span(2, 19, true), 1);
    due("22: span where not lawful", x.span(1, 19, false), 289);
    due("23: under", x.under(0, 29), 9600);
    due("23: under of nothing", x.under(2, 19), 0);
    due("23: under below 0", x.under(1, 19), 4 * 289 - 289 * 289);
    check.refused("18: lawful(0, 40)", x, x.lawful(0, 40), -1, 1);
    check.refused("18: lawful(4, 0)", x, x.lawful(4, 0), -1, 1);
    check.refused("19: lawfuls(4)", x, x.lawfuls(4), -1, 1);
    check.refused("20: deads(-1)", x, x.deads(-1), -1, 1);
    check.refused("21: between(0, 40)", x, x.between(0, 40), -1, 1);
    check.refused("21: between(4, 0)", x, x.between(4, 0), -1, 1);
    check.refused("22: span(0, -1)", x, x.span(0, -1, false), -1, 1);
    check.refused("22: span(4, 0)", x, x.span(4, 0, false), -1, 1);
    check.refused("23: under(4, 0)", x, x.under(4, 0), LOW, 1);
    check.refused("23: under(0, 40)", x, x.under(0, 40), LOW, 1);
    due("26: by branches", x.circuit(0, 0, 1), 1);
    due("26: by branches", x.circuit(0, 39, 0), 0);
    due("26: of one arc", x.circuit(2, 0, 1), 0);
    due("26: of two arcs, above", x.circuit(3, 25, 1), 0);
    due("26: of two arcs, below", x.circuit(3, 9, 0), 1);
    check.refused("26: not lawful", x, x.circuit(3, 19, 0), -1, 5);
    check.refused("26: no such branch", x, x.circuit(3, 19, 2), -1, 1);
    check.refused("26: no such angle", x, x.circuit(3, 40, 0), -1, 1);
  }

  // promises 24, 25, 30
  private void joints() {
    CrankBranches x = Check.with(FOUR);
    due("24: joint x", x.joint(0, 29, 0, 0), 42);
    due("24: joint y", x.joint(0, 29, 0, 1), 46);
    due("24: joint x, branch 1", x.joint(0, 29, 1, 0), 17);
    due("24: tenths go down below 0", x.joint(0, 29, 1, 1), -27);
    due("24: whole tenths stay below 0", x.joint(0, 39, 1, 1), -30);
    due("24: rhombus", x.joint(2, 29, 0, 0), 30);
    due("24: rhombus folded", x.joint(2, 29, 1, 0), 0);
    long[] folded = {36, 1, 24, 36, 1, 24};
    long[] dead = {0, 0, 1, 0, 1, 12};
    for (int what = 0; what < 6; what++) {
      long sign = what % 3 == 1 ? -1 : 1;
      due("25: exact " + what, x.exact(2, 29, 0, what), folded[what]);
      due("25: exact in branch 1 " + what, x.exact(2, 29, 1, what), sign * folded[what]);
      due("25: exact at a dead one " + what, x.exact(2, 39, 0, what), dead[what]);
      due("25: exact at a dead one, branch 1 " + what, x.exact(2, 39, 1, what), sign * dead[what]);
    }
    long[] rate = {36, 1, 72};
    long[] other = {-1, 0, 2};
    for (int what = 0; what < 3; what++) {
      long sign = what == 1 ? -1 : 1;
      due("30: rate " + what, x.rate(2, 29, 0, what), rate[what]);
      due("30: rate in branch 1 " + what, x.rate(2, 29, 1, what), sign * rate[what]);
      due("30: rate " + what, x.rate(0, 19, 1, what), other[what]);
    }
    check.refused("24: not lawful", x, x.joint(2, 19, 0, 0), NOTHING, 5);
    check.refused("24: no such what", x, x.joint(2, 19, 0, 2), NOTHING, 1);
    check.refused("24: no such branch", x, x.joint(2, 19, -1, 0), NOTHING, 1);
    check.refused("24: no such angle", x, x.joint(2, 40, 0, 0), NOTHING, 1);
    check.refused("24: no such linkage", x, x.joint(4, 0, 0, 0), NOTHING, 1);
    check.refused("25: not lawful", x, x.exact(1, 0, 0, 0), LOW, 5);
    check.refused("25: no such what", x, x.exact(1, 0, 0, 6), LOW, 1);
    check.refused("25: no such branch", x, x.exact(1, 0, 2, 0), LOW, 1);
    check.refused("30: not lawful", x, x.rate(2, 19, 0, 0), LOW, 5);
    check.refused("30: dead", x, x.rate(2, 39, 0, 0), LOW, 5);
    check.refused("30: no such what", x, x.rate(2, 39, 0, 3), LOW, 1);
    check.refused("30: no such angle", x, x.rate(2, -1, 0, 0), LOW, 1);
  }

  // promises 27, 28
  private void forces() {
    CrankBranches x = Check.with(FOUR);
    due("27: force, upper", x.force(0, 39, false), -7);
    due("27: force, lower", x.force(0, 39, true), 25);
    due("27: force of nothing, upper", x.force(2, 29, false), 0);
    due("27: force of nothing, lower", x.force(2, 29, true), 1);
    due("27: force at a dead one", x.force(2, 39, false), -1);
    check.refused("27: not lawful", x, x.force(2, 19, false), LOW, 5);
    check.refused("27: no such angle", x, x.force(2, 40, false), LOW, 1);
    check.refused("27: no such linkage", x, x.force(4, 0, false), LOW, 1);
    due("28: of two the first", x.easiest(2), 9);
    due("28: none", x.easiest(1), -2);
    due("60: trouble()", x.trouble(), 0);
    due("28: flat", Check.with(STOPS).easiest(1), 19);
    // Least where S by N is nearest to 50: the cosine nearest to -5 by 12, that of 3 by 2 (-5 by 13).
    due("28: either sign", x.easiest(0), x.which(-3, 2));
    check.refused("28: no such linkage", x, x.easiest(4), -1, 1);
  }

  // promises 31, 32, 46
  private void told() {
    CrankBranches x = Check.with(ALL);
    due("31: tracer m", x.tracer(2, 0), -5);
    due("31: tracer n", x.tracer(2, 1), 10);
    check.refused("31: tracer(3, 0)", x, x.tracer(3, 0), NOTHING, 1);
    check.refused("31: tracer(-1, 0)", x, x.tracer(-1, 0), NOTHING, 1);
    check.refused("31: tracer(0, 2)", x, x.tracer(0, 2), NOTHING, 1);
    due("32: point x", x.point(0, 0), 20);
    due("32: point y", x.point(1, 1), -20);
    check.refused("32: point(3, 0)", x, x.point(3, 0), NOTHING, 1);
    check.refused("32: point(0, -1)", x, x.point(0, -1), NOTHING, 1);
    CrankBranches y = Check.with("bars ground 1 crank 1 rod 1 arm 1;pair -2 4 -5 0;pair 0 3 4 2");
    int[] want = {-2, 4, -5, 0, 0, 3, 4, 2};
    for (int i = 0; i < 8; i++) {
      due("46: pair as told", y.pair(i / 4, i % 4), want[i]);
    }
    check.refused("46: pair(2, 0)", y, y.pair(2, 0), NOTHING, 1);
    check.refused("46: pair(0, 4)", y, y.pair(0, 4), NOTHING, 1);
    check.refused("46: pair(0, -1)", y, y.pair(0, -1), NOTHING, 1);
  }

  // promises 33 to 36
  private void curves() {
    CrankBranches x = Check.with(ALL);
    due("33: traced is the joint", x.traced(0, 0, 29, 1, 1), -27);
    due("33: traced is the pin", x.traced(0, 1, 29, 0, 1), 20);
    // Half the rod back and a rod's length to the left of it: 10 (0, 3) - 5 (3, 0) + 10 (0, 3).
    due("33: traced x", x.traced(2, 2, 29, 0, 0), -15);
    due("33: traced y", x.traced(2, 2, 29, 0, 1), 60);
    // In branch 1 the rod goes down from the pin: 10 (0, 3) - 5 (0, -3) + 10 (3, 0).
    due("33: traced x, branch 1", x.traced(2, 2, 29, 1, 0), 30);
    due("33: traced y, branch 1", x.traced(2, 2, 29, 1, 1), 45);
    check.refused("33: not lawful", x, x.traced(2, 2, 19, 0, 0), NOTHING, 5);
    check.refused("33: no such what", x, x.traced(2, 2, 19, 0, 2), NOTHING, 1);
    check.refused("33: no such tracer", x, x.traced(2, 3, 19, 0, 0), NOTHING, 1);
    check.refused("33: no such angle", x, x.traced(2, 2, 40, 0, 0), NOTHING, 1);
    check.refused("33: no such branch", x, x.traced(2, 2, 0, 2, 0), NOTHING, 1);
    int[] box = {-20, 20, -20, 20};
    // Branch 1 of the rhombus: folded, at (0, 0), in the upper half of the turn, beside the crank in the lower.
    int[] halves = {0, 57, -30, 0};
    for (int what = 0; what < 4; what++) {
      due("34: box of a circle " + what, x.box(0, 1, 0, what), box[what]);
      due("34: box of a half " + what, x.box(2, 0, 1, what), halves[what]);
    }
    check.refused("34: nothing is lawful", x, x.box(1, 0, 0, 0), NOTHING, 5);
    check.refused("34: no such what", x, x.box(1, 0, 0, 4), NOTHING, 1);
    check.refused("34: no such branch", x, x.box(1, 0, -1, 0), NOTHING, 1);
    due("35: area of none", x.area(1, 0, 0), 0);
    due("35: area of one point", Check.with(STOPS).area(1, 0, 0), 0);
    check.refused("35: no such tracer", x, x.area(0, 3, 0), LOW, 1);
    due("36: crossings of a circle", x.crossings(0, 1, 0), 0);
    due("36: crossings of a half, many in one place", x.crossings(2, 0, 1), 0);
    due("36: crossings of none", x.crossings(1, 0, 0), 0);
    check.refused("36: no such linkage", x, x.crossings(4, 0, 0), -1, 1);
    check.refused("36: no such branch", x, x.crossings(0, 0, 2), -1, 1);
    long area = 0;
    for (int k = 0; k < 40; k++) {
      int next = (k + 1) % 40;
      area += (long) x.traced(0, 2, k, 1, 0) * x.traced(0, 2, next, 1, 1)
          - (long) x.traced(0, 2, next, 1, 0) * x.traced(0, 2, k, 1, 1);
    }
    due("35: area edge by edge", x.area(0, 2, 1), area);
    due("35: turning left, above 0", x.area(0, 1, 0) > 2000 && x.area(0, 1, 0) < 2514 ? 1 : 0, 1);
    due("34: box of two arcs, both sides", x.box(3, 1, 0, 2) < -30 && x.box(3, 1, 0, 3) > 30 ? 1 : 0, 1);
  }

  // promises 37, 38, 39
  private void hulls() {
    CrankBranches x = Check.with(ALL);
    due("38: of one place the first", x.corner(2, 0, 1, 0), 20);
    CrankBranches flat = Check.with(STOPS);
    due("37: hull of one point", flat.hull(1, 0, 0), 1);
    due("38: corner of one point", flat.corner(1, 0, 0, 0), 19);
    due("39: of one point", flat.hullArea(1, 0, 0), 0);
    due("37: hull of none", x.hull(1, 0, 0), 0);
    due("39: of none", x.hullArea(1, 0, 0), 0);
    check.refused("38: corner of none", x, x.corner(1, 0, 0, 0), -1, 1);
    check.refused("38: behind the last corner", x, x.corner(2, 0, 1, x.hull(2, 0, 1)), -1, 1);
    check.refused("38: corner(-1)", x, x.corner(2, 0, 1, -1), -1, 1);
    check.refused("38: corner of one point", flat, flat.corner(1, 0, 0, 1), -1, 1);
    check.refused("37: no such tracer", x, x.hull(0, 3, 0), -1, 1);
    check.refused("38: no such branch", x, x.corner(0, 0, 2, 0), -1, 1);
    check.refused("39: no such linkage", x, x.hullArea(4, 0, 0), -1, 1);
    circle(Check.with(ALL));
  }

  /** The hull of the circle that the pin goes on, looked at point by point. */
  private void circle(CrankBranches x) {
    int[][] at = new int[40][2];
    int first = 0;
    for (int k = 0; k < 40; k++) {
      at[k] = new int[] {x.traced(0, 1, k, 0, 0), x.traced(0, 1, k, 0, 1)};
      boolean before = at[k][0] == at[first][0] ? at[k][1] < at[first][1] : at[k][0] < at[first][0];
      first = before ? k : first;
    }
    due("38: the circle's leftmost, its lowest", x.corner(0, 1, 0, 0), first);
    int corners = x.hull(0, 1, 0);
    int[][] hull = new int[corners][];
    for (int j = 0; j < corners; j++) {
      hull[j] = at[x.corner(0, 1, 0, j)];
    }
    long twice = 0;
    for (int j = 0; j < corners; j++) {
      int[] next = hull[(j + 1) % corners];
      twice += (long) hull[j][0] * next[1] - (long) next[0] * hull[j][1];
      due("37: turning left at " + j, bend(hull[j], next, hull[(j + 2) % corners]) > 0 ? 1 : 0, 1);
      for (int k = 0; k < 40; k++) {
        due("37: all within", bend(hull[j], next, at[k]) >= 0 ? 1 : 0, 1);
      }
    }
    due("39: hullArea", x.hullArea(0, 1, 0), twice);
  }

  private static long bend(int[] from, int[] by, int[] to) {
    return (long) (by[0] - from[0]) * (to[1] - from[1]) - (long) (by[1] - from[1]) * (to[0] - from[0]);
  }

  // promises 40, 41
  private void straights() {
    CrankBranches x = Check.with(ALL);
    // Twenty in one place, and the one ahead of them: a line goes through any two.
    due("40: many in one place", x.straight(2, 0, 1, 0), 21);
    due("41: many in one place", x.straightFrom(2, 0, 1, 0), 18);
    due("40: none", x.straight(1, 0, 0, 0), 0);
    due("41: none", x.straightFrom(1, 0, 0, 0), -2);
    due("40: a circle within its width", x.straight(0, 1, 0, 100), 40);
    due("41: a circle within its width", x.straightFrom(0, 1, 0, 100), 0);
    due("40: one point", Check.with(STOPS).straight(1, 0, 0, 0), 1);
    due("41: one point", Check.with(STOPS).straightFrom(1, 0, 0, 0), 19);
    // A kite: the joint stays at (0, 0) through half the turn, then goes out to (6, 0) and comes back.
    CrankBranches kite = Check.with("bars ground 3 crank 5 rod 5 arm 3;tracer 10 0");
    due("40: first and last in one place, the farthest h from it", kite.straight(0, 0, 0, 60), 40);
    due("40: the last two left out, by the line to (0.5, 1.7)", kite.straight(0, 0, 0, 59), 38);
    check.refused("40: h below 0", x, x.straight(0, 0, 0, -1), -1, 2);
    check.refused("40: h above 100", x, x.straight(0, 0, 0, 101), -1, 2);
    check.refused("40: 1 ahead of 2", x, x.straight(0, 3, 0, 101), -1, 1);
    check.refused("41: h below 0", x, x.straightFrom(0, 0, 0, -1), -1, 2);
    check.refused("41: h above 100", x, x.straightFrom(0, 0, 0, 101), -1, 2);
    check.refused("41: 1 ahead of 2", x, x.straightFrom(0, 0, 2, 101), -1, 1);
  }

  // promises 42 to 45
  private void misses() {
    CrankBranches x = Check.with(ALL);
    due("42: like ones by number", x.near(2, 0, 1, 0, 0), 20);
    due("42: like ones by number", x.near(2, 0, 1, 0, 18), 38);
    due("42: like ones by number", x.near(2, 0, 1, 0, 19), 39);
    due("42: no more of these", x.near(2, 0, 1, 0, 20) < 19 ? 1 : 0, 1);
    due("42: the least first", x.near(0, 1, 0, 1, 0), 9);
    check.refused("42: near(39)", x, x.near(2, 0, 1, 0, 39), -1, 1);
    check.refused("42: near(-1)", x, x.near(2, 0, 1, 0, -1), -1, 1);
    check.refused("42: no such point", x, x.near(2, 0, 1, 3, 0), -1, 1);
    check.refused("42: no such tracer", x, x.near(2, 3, 1, 0, 0), -1, 1);
    due("43: miss", x.miss(2, 0, 1, 0), 20 * 20 + 30 * 30);
    due("43: miss of nothing", x.miss(0, 1, 0, 1), 0);
    check.refused("43: nothing is lawful", x, x.miss(1, 0, 0, 0), -1, 5);
    check.refused("43: no such point", x, x.miss(1, 0, 0, 3), -1, 1);
    check.refused("43: no such branch", x, x.miss(0, 0, 2, 0), -1, 1);
    due("44: met", x.met(0, 1, 0, 1), 9);
    due("44: the first", x.met(2, 0, 1, 2), 20);
    due("44: not met", x.met(2, 0, 1, 0), -2);
    due("44: none", x.met(1, 0, 1, 0), -2);
    // (2, 3) is 5 from the pin at half a turn, and at that turned over the line to it: -2 by 3.
    due("44: of two the first", x.met(0, 0, 0, 0), x.which(-2, 3));
    due("44: not in the other branch", x.met(0, 0, 1, 0), -2);
    // The joint of the first at a quarter turn is at (4 and the like, 4 and the like), cut to 42, 46.
    CrankBranches cut = Check.with("bars ground 6 crank 2 rod 5 arm 5;tracer 10 0;point 42 46;point 40 45");
    due("44: tenths cut off, x and y", cut.met(0, 0, 0, 0), -2);
    due("43: yet no miss", cut.miss(0, 0, 0, 0), 0);
    due("44: tenths cut off, y", cut.met(0, 0, 0, 1), -2);
    CrankBranches first = Check.with("bars ground 13 crank 13 rod 18 arm 18;tracer 0 0;point -120 -50");
    due("44: at the first angle", first.met(0, 0, 1, 0), 0);
    CrankBranches aside = Check.with("bars ground 3 crank 3 rod 3 arm 3;tracer -5 10;point -15 60;point -16 60;"
        + "point -15 61");
    due("44: beside the rod", aside.met(0, 0, 0, 0), 29);
    due("44: another x", aside.met(0, 0, 0, 1), -2);
    due("44: another y", aside.met(0, 0, 0, 2), -2);
    check.refused("44: no such point", x, x.met(0, 0, 0, 3), -1, 1);
    check.refused("44: no such linkage", x, x.met(4, 0, 0, 0), -1, 1);
    CrankBranches flat = Check.with(STOPS);
    due("44: dead ones, too", flat.met(1, 0, 1, 0), 19);
    due("44: a tenth off", flat.met(1, 0, 1, 1), -2);
    due("45: the rod's end meets one, its start another", x.best(2, 1), best(x, 2, 1));
    due("45: best", x.best(0, 0), best(x, 0, 0));
    check.refused("45: nothing is lawful", x, x.best(1, 0), -1, 5);
    check.refused("45: no such linkage", x, x.best(4, 0), -1, 1);
    check.refused("45: no such branch", x, x.best(0, 2), -1, 1);
    String two = "bars ground 3 crank 3 rod 3 arm 3;tracer 0 0;tracer 10 0;tracer 10 0";
    CrankBranches none = Check.with(two);
    check.refused("45: no points", none, none.best(0, 0), -1, 5);
    none = Check.with("bars ground 3 crank 3 rod 3 arm 3;point 0 0");
    check.refused("45: no tracers", none, none.best(0, 0), -1, 5);
    due("45: of several the first", Check.with(two + ";point 0 0").best(0, 1), 1);
    due("45: all points together", Check.with(two + ";point 0 0;point 30 0;point 0 30").best(0, 1), 0);
  }

  private static int best(CrankBranches x, int l, int branch) {
    int found = -1;
    long fewest = Long.MAX_VALUE;
    for (int i = 0; i < x.size(1); i++) {
      long all = 0;
      for (int p = 0; p < x.size(2); p++) {
        all += x.miss(l, i, branch, p);
      }
      if (all < fewest) {
        fewest = all;
        found = i;
      }
    }
    return found;
  }

  // promises 47, 50
  private void pairs() {
    CrankBranches x = Check.with(ALL);
    due("47: closing", x.closing(0, 0, false), 20);
    due("47: closing", x.closing(0, 1, false), 56);
    due("47: closing, upper", x.closing(0, 2, false), 368);
    due("47: closing, lower", x.closing(0, 2, true), 5);
    due("47: it closes", x.closing(2, 0, false), 0);
    due("47: below 0", Check.with("bars ground 1 crank 1 rod 18 arm 1;pair 0 1 0 1").closing(0, 0, false), 1 - 324);
    check.refused("47: no such pair", x, x.closing(0, 3, false), LOW, 1);
    check.refused("47: no such linkage", x, x.closing(4, 0, false), LOW, 1);
    int[] three = {-1, -1, 1};
    for (int what = 0; what < 3; what++) {
      due("50: three, upper", x.three(what, false), three[what]);
      due("50: three, lower", x.three(what, true), 1);
    }
    check.refused("50: three(3)", x, x.three(3, false), LOW, 1);
    check.refused("50: three(-1)", x, x.three(-1, false), LOW, 1);
    CrankBranches y = Check.with("bars ground 1 crank 1 rod 1 arm 1;pair 0 1 1 2;pair 1 1 1 0");
    check.refused("50: two pairs", y, y.three(0, false), LOW, 5);
    y = Check.with("bars ground 1 crank 1 rod 1 arm 1;pair 0 1 1 2;pair 1 1 1 0;pair 0 2 2 4;pair 1 2 1 1");
    check.refused("50: two of one", y, y.three(0, false), LOW, 5);
    // u - v + w is 1, -u + w is 0, v + w is 0: u is w, v is -w, so w is 1 by 3.
    y = Check.with("bars ground 1 crank 1 rod 1 arm 1;pair 0 1 0 1;pair 1 1 1 0;pair 1 0 1 1;pair 1 2 1 1");
    int[] thirds = {1, -1, 1};
    for (int what = 0; what < 3; what++) {
      due("50: three, upper", y.three(what, false), thirds[what]);
      due("50: three, lower", y.three(what, true), 3);
    }
  }

  // promises 48, 49
  private void fits() {
    CrankBranches x = new CrankBranches();
    check.refused("48: no desk", x, x.fit(0), -1, 1);
    check.refused("49: no desk", x, x.fitMiss(false), -1, 1);
    check.refused("50: no desk", x, x.three(0, false), LOW, 1);
    x = Check.with(FOUR);
    check.refused("48: no pairs", x, x.fit(0), -1, 5);
    check.refused("48: 1 ahead of 5", x, x.fit(3), -1, 1);
    check.refused("49: no pairs", x, x.fitMiss(true), -1, 5);
    // CLOSING is the square of g - a + c less b b.
    x = Check.with("bars ground 2 crank 9 rod 9 arm 9;bars ground 5 crank 1 rod 1 arm 1;pair 0 1 0 1");
    fitted(x, 1, 2, 1, 0, 1);
    x.reshape(1, 0, 1);
    x.reshape(0, 1, 1);
    fitted(x, 1, 2, 1, 0, 1);
    x.reshape(0, 0, 1);
    fitted(x, 1, 1, 1, 0, 1);
    x.undo();
    fitted(x, 1, 2, 1, 0, 1);
    // With the arm half a turn on it is the square of g - a - c less b b.
    Check.desk(x, "bars ground 2 crank 9 rod 9 arm 9;pair 0 1 0 1;pair 0 1 1 0");
    fitted(x, 2, 1, 1, 0, 1);
    // Crank and arm a quarter turn on and back: g g + (a - c)(a - c) and g g + (a + c)(a + c), less b b:
    // half their difference is 2 a c, and 1, 1 leaves 2 + b b's own miss.
    Check.desk(x, "bars ground 4 crank 9 rod 9 arm 9;pair 1 1 1 1;pair 1 1 -1 1");
    fitted(x, 1, 4, 1, 4, 1);
    check.refused("48: fit(-1)", x, x.fit(-1), -1, 1);
  }

  private void fitted(CrankBranches x, int a, int b, int c, long upper, long lower) {
    due("48: fit a", x.fit(0), a);
    due("48: fit b", x.fit(1), b);
    due("48: fit c", x.fit(2), c);
    due("49: fitMiss, upper", x.fitMiss(false), upper);
    due("49: fitMiss, lower", x.fitMiss(true), lower);
    due("60: trouble()", x.trouble(), 0);
  }

  // promises 51 to 55
  private void walks() {
    CrankBranches x = Check.with(FOUR);
    check.refused("52: no walk", x, x.walk(0), -1, 5);
    check.refused("52: 1 ahead of 5", x, x.walk(4), -1, 1);
    check.refused("53: no walk", x, x.steps(101), -1, 5);
    check.refused("54: no walk", x, x.flip(), -1, 5);
    check.refused("55: no walk", x, x.away(40, 0), -1, 5);
    check.due("51: begin", x.begin(2, 39, 0), true);
    walked(x, 2, 39, 0, 0);
    due("55: where it is", x.away(39, 0), 0);
    due("55: by a flip", x.away(39, 1), 1);
    due("55: the nearer way", x.away(0, 0), 1);
    due("55: a step and a flip", x.away(38, 1), 2);
    due("55: it can't be", x.away(19, 0), -2);
    due("53: over the turn's end, as far as can be", x.steps(100), 19);
    walked(x, 2, 18, 0, 19);
    due("53: none", x.steps(1), 0);
    due("53: steps(0)", x.steps(0), 0);
    due("55: the long way, over the dead one", x.away(18, 1), 39);
    due("55: around", x.away(20, 0), 38);
    check.refused("54: not dead", x, x.flip(), -1, 5);
    walked(x, 2, 18, 0, 19);
    due("53: back", x.steps(-19), 19);
    walked(x, 2, 39, 0, 38);
    due("54: flip", x.flip(), 1);
    walked(x, 2, 39, 1, 39);
    due("54: flip back", x.flip(), 0);
    due("53: back, as far as can be", x.steps(-100), 19);
    walked(x, 2, 20, 0, 59);
    check.refused("53: steps(101)", x, x.steps(101), -1, 2);
    check.refused("53: steps(-101)", x, x.steps(-101), -1, 2);
    check.refused("55: no such angle", x, x.away(40, 0), -1, 1);
    check.refused("55: no such branch", x, x.away(0, 2), -1, 1);
    check.refused("52: walk(-1)", x, x.walk(-1), -1, 1);
    check.due("51: not lawful", x.begin(2, 19, 0), false);
    due("51: 5", x.trouble(), 5);
    check.due("51: no such branch", x.begin(2, 19, 2), false);
    due("51: 1", x.trouble(), 1);
    check.due("51: no such linkage", x.begin(4, 0, 0), false);
    check.due("51: no such angle", x.begin(0, 40, 0), false);
    walked(x, 2, 20, 0, 59);
    check.due("51: begin again", x.begin(0, 7, 1), true);
    walked(x, 0, 7, 1, 0);
    due("53: around and around", x.steps(100), 100);
    walked(x, 0, 27, 1, 100);
    due("55: the other branch can't be", x.away(27, 0), -2);
    due("55: half around", x.away(7, 1), 20);
    due("55: the nearer way back", x.away(6, 1), 19);
    x.begin(3, 25, 0);
    due("53: within an arc", x.steps(100), 4);
    due("55: the other arc can't be", x.away(13, 0), -2);
    CrankBranches flat = Check.with(STOPS);
    flat.begin(1, 19, 1);
    due("53: nowhere to go", flat.steps(-1), 0);
    due("54: flip", flat.flip(), 0);
    due("55: by a flip", flat.away(19, 1), 1);
    due("55: can't be", flat.away(20, 1), -2);
  }

  private void walked(CrankBranches x, int l, int k, int branch, int moves) {
    due("52: its linkage", x.walk(0), l);
    due("52: its angle", x.walk(1), k);
    due("52: its branch", x.walk(2), branch);
    due("52: its steps and flips", x.walk(3), moves);
  }

  // promises 56, 57, 59
  private void acts() {
    CrankBranches x = Check.with(FOUR);
    check.due("57: nothing to undo", x.undo(), false);
    due("57: 1", x.trouble(), 1);
    x.begin(0, 0, 0);
    check.refused("56: length 0", x, x.reshape(0, 0, 0), -1, 2);
    check.refused("56: length 19", x, x.reshape(0, 0, 19), -1, 2);
    check.refused("56: 1 ahead of 2", x, x.reshape(0, 4, 19), -1, 1);
    check.refused("56: no such linkage", x, x.reshape(4, 0, 1), -1, 1);
    check.refused("56: no such bar", x, x.reshape(0, -1, 1), -1, 1);
    due("59: nothing was done", x.size(4), 0);
    due("56: a refused one leaves the walk", x.walk(0), 0);
    due("56: the one it was", x.reshape(1, 3, 18), 1);
    due("9: the one it is", x.bar(1, 3), 18);
    due("11: its kind is another", x.kind(1), 4);
    due("59: one to undo", x.size(4), 1);
    check.refused("56: no walk", x, x.walk(0), -1, 5);
    due("56: the same, too", x.reshape(1, 3, 18), 18);
    due("59: two to undo", x.size(4), 2);
    x.begin(0, 0, 0);
    check.due("57: undo", x.undo(), true);
    check.refused("57: no walk", x, x.walk(0), -1, 5);
    due("57: the latest first", x.bar(1, 3), 18);
    check.due("57: undo", x.undo(), true);
    due("57: the first then", x.bar(1, 3), 1);
    x.begin(0, 0, 0);
    check.due("57: no more", x.undo(), false);
    due("57: a refused one leaves the walk", x.walk(0), 0);
    for (int length = 1; length <= 13; length++) {
      due("56: reshape " + length, x.reshape(0, 2, length), length == 1 ? 5 : length - 1);
      due("59: ten are kept", x.size(4), Math.min(length, 10));
    }
    for (int length = 12; length >= 3; length--) {
      check.due("57: undo", x.undo(), true);
      due("57: back to " + length, x.bar(0, 2), length);
      due("59: fewer to undo", x.size(4), length - 3);
    }
    check.due("57: ten are kept", x.undo(), false);
    due("57: and no more", x.bar(0, 2), 3);
    x.reshape(0, 2, 9);
    x.undo();
    due("57: behind another one", x.bar(0, 2), 3);
  }

  // promise 58
  private void unbuilts() {
    CrankBranches x = new CrankBranches();
    unbuilt(x, 0, -9);
    Check.desk(x, "bars ground 9 crank 1 rod 1 arm 1;bars ground 3 crank 1 rod 1 arm 1;"
        + "bars ground 1 crank 9 rod 7 arm 1;bars ground 2 crank 2 rod 2 arm 7");
    x.bar(9, 9);
    unbuilt(x, 0, 0);
    unbuilt(x, 1, 3);
    unbuilt(x, 2, -9);
    unbuilt(x, -1, -9);
    unbuilt(x, Integer.MIN_VALUE, -9);
    due("58: leaves trouble", x.trouble(), 1);
    x.reshape(0, 0, 1);
    unbuilt(x, 0, 3);
  }

  /** -9: it throws. */
  private void unbuilt(CrankBranches x, int i, int want) {
    int got = -9;
    try {
      got = x.unbuilt(i);
    } catch (NoSuchElementException e) {
      got = -9;
    }
    due("58: unbuilt(" + i + ")", got, want);
  }

  // promise 60
  private void troubles() {
    CrankBranches x = Check.with(FOUR);
    x.bar(9, 0);
    x.feed(1, 2, 3, 4, 5);
    x.fault();
    x.where();
    x.angles();
    x.size(9);
    unbuilt(x, 0, 1);
    due("60: left by calls that can't be refused", x.trouble(), 1);
    due("60: and by itself", x.trouble(), 1);
    x.lawfuls(0);
    due("60: 0 by one that wasn't", x.trouble(), 0);
    x.which(0, 0);
    x.easiest(0);
    due("60: 0 by another", x.trouble(), 0);
  }

  // all calls of linkages without a desk
  private void refusals() {
    CrankBranches x = new CrankBranches();
    check.refused("bar", x, x.bar(0, 0), -1, 1);
    check.refused("sums", x, x.sums(0), NOTHING, 1);
    check.refused("kind", x, x.kind(0), -1, 1);
    check.refused("round", x, x.round(0, 0), -1, 1);
    check.refused("least", x, x.least(0, false), LOW, 1);
    check.refused("most", x, x.most(0, false), LOW, 1);
    check.refused("ends", x, x.ends(0), -1, 1);
    check.refused("span", x, x.span(0, 0, true), -1, 1);
    check.refused("tracer", x, x.tracer(0, 0), NOTHING, 1);
    check.refused("point", x, x.point(0, 0), NOTHING, 1);
    check.refused("pair", x, x.pair(0, 0), NOTHING, 1);
    check.refused("box", x, x.box(0, 0, 0, 0), NOTHING, 1);
    check.refused("area", x, x.area(0, 0, 0), LOW, 1);
    check.refused("hull", x, x.hull(0, 0, 0), -1, 1);
    check.refused("hullArea", x, x.hullArea(0, 0, 0), -1, 1);
    check.refused("best", x, x.best(0, 0), -1, 1);
    check.refused("closing", x, x.closing(0, 0, true), LOW, 1);
    check.refused("reshape", x, x.reshape(0, 0, 1), -1, 1);
    due("NONE", CrankBranches.NONE, -1);
    due("NOTHING", CrankBranches.NOTHING, -1000000000);
  }
}
