/** Promises 46 to 50, and what the Terms say of PAIRS: one test for each sentence with a boundary. */
final class PairSentences extends Sentences {
  private static final String ORDER = "Refusals of a call are met in the order in which they are told";
  private static final String THIRDS = ROUND + ";pair 0 1 0 1;pair 1 1 1 0;pair 1 0 1 1";

  private static CrankBranches fitting(int ground, String pairs) {
    return desk("bars ground " + ground + " crank 9 rod 9 arm 9;" + pairs);
  }

  // ---- promises 46 and 47

  @Says(promise = 46, words = "NOTHING: 1")
  void p46_no_such_pair_and_no_such_what() {
    onlyWithin(desk(FULL), NOTHING, "pair", 4, 4);
    no(new CrankBranches(), NOTHING, 1, "pair", 0, 0);
    no(desk(ROUND), NOTHING, 1, "pair", 0, 0);
  }

  @Says(promise = 46, words = "as told")
  void p46_as_told_in_lowest_terms_or_not() {
    CrankBranches x = desk(ROUND + ";pair -2 4 -5 0;pair -0 3 5 5");
    are(x, new long[] {-2, 4, -5, 0}, "pair", 0);
    are(x, new long[] {0, 3, 5, 5}, "pair", 1);
  }

  @Says(promise = 47, words = "Long.MIN_VALUE: 1")
  void p47_no_such_linkage_and_no_such_pair() {
    onlyWithin(desk(FULL), LOW, "closing", 4, 4);
    no(new CrankBranches(), LOW, 1, "closing", 0, 0, false);
    no(desk(ROUND), LOW, 1, "closing", 0, 0, true);
  }

  @Says(promise = 47, term = "III", words = "(0: it closes)")
  void p47_0_where_it_closes_and_below_it_where_the_rod_is_too_long() {
    fraction(desk(RHOMBUS + ";pair 1 1 1 1"), 0, 1, "closing", 0, 0);
    fraction(desk("bars ground 1 crank 1 rod 18 arm 1;pair 0 1 0 1"), 1 - 324, 1, "closing", 0, 0);
    fraction(desk("bars ground 18 crank 18 rod 1 arm 18;pair 1 0 0 1"), 54 * 54 - 1, 1, "closing", 0, 0);
    // Of the last PAIR there is room for: half a turn of the crank alone.
    fraction(desk(FULL), 13 * 13 - 5 * 5, 1, "closing", 0, 3);
  }

  @Says(promise = 47, term = "IV",
      words = "Fractions are told in lowest terms, the upper WHOLE (may be below 0) or the lower")
  void p47_in_lowest_terms_though_the_pair_is_not() {
    fraction(desk(ROUND + ";pair 1 2 0 1;pair 2 4 0 5"), 368, 5, "closing", 0, 0);
    fraction(desk(ROUND + ";pair 1 2 0 1;pair 2 4 0 5"), 368, 5, "closing", 0, 1);
  }

  // ---- promise 48

  @Says(promise = 48, words = "NONE: 1 (no DESK")
  void p48_no_desk() {
    for (int what = 0; what < 3; what++) {
      no(new CrankBranches(), NONE, 1, "fit", what);
    }
  }

  @Says(promise = 48, words = "; what)")
  void p48_no_such_what() {
    onlyWithin(desk(FULL), NONE, "fit", 3);
  }

  @Says(promise = 48, words = "5 (no PAIRS)")
  void p48_no_pairs() {
    CrankBranches x = desk(ROUND);
    for (int what = 0; what < 3; what++) {
      no(x, NONE, 5, "fit", what);
    }
  }

  @Says(promise = 48, term = "IV", words = ORDER)
  void p48_1_is_met_ahead_of_5() {
    no(desk(ROUND), NONE, 1, "fit", 3);
    no(desk(ROUND), NONE, 1, "fit", -1);
  }

  @Says(promise = 48, term = "III", words = "the a, b, c (1 .. 18)")
  void p48_lengths_are_from_1_to_18() {
    // (g + a + c) (g + a + c) less b b.
    are(fitting(18, "pair 1 0 0 1"), new long[] {1, 18, 1}, "fit");
    are(fitting(2, "pair -3 1 5 1;pair -3 1 -1 1"), new long[] {18, 17, 6}, "fit");
    are(fitting(6, "pair -3 1 2 1;pair -3 1 -1 1"), new long[] {6, 18, 18}, "fit");
  }

  @Says(promise = 48, term = "III", words = "of several the first by a, then b, then c")
  void p48_of_several_the_first_by_a_then_b_then_c() {
    // g - a - c is b, or that less than nothing: 1, 1, 2 and 1, 1, 4 and 1, 2, 1 and 2, 1, 1 would do, too.
    are(fitting(4, "pair 0 1 1 0"), new long[] {1, 1, 2}, "fit");
    // g - a + c likewise: 1, 2, 1 and 2, 1, 1.
    are(fitting(2, "pair 0 1 0 1"), new long[] {1, 2, 1}, "fit");
  }

  @Says(promise = 48, term = "III", words = "by which the greatest CLOSING of all PAIRS (without its sign) is least")
  void p48_the_greatest_without_its_sign_is_least() {
    // With its sign it would be least by b 18; of the first PAIR alone 1, 4, 1 would be best, too.
    are(fitting(4, "pair 1 1 1 1;pair 1 1 -1 1"), new long[] {1, 4, 1}, "fit");
    are(fitting(2, "pair 0 1 0 1;pair 0 1 1 0"), new long[] {2, 1, 1}, "fit");
    are(fitting(2, "pair 0 1 0 1;pair 0 1 0 1;pair 0 1 0 1;pair 0 1 1 0"), new long[] {2, 1, 1}, "fit");
  }

  @Says(promise = 48, term = "III", words = "FIT: with g of LINKAGE 0")
  void p48_with_the_ground_as_it_is_now() {
    CrankBranches x = desk("bars ground 2 crank 9 rod 9 arm 9;bars ground 5 crank 1 rod 1 arm 1;pair 0 1 0 1");
    are(x, new long[] {1, 2, 1}, "fit");
    is(x, 2, "reshape", 0, 0, 1);
    are(x, new long[] {1, 1, 1}, "fit");
    is(x, 1, "undo");
    are(x, new long[] {1, 2, 1}, "fit");
    is(x, 5, "reshape", 1, 0, 1);
    are(x, new long[] {1, 2, 1}, "fit");
    Check.desk(x, "bars ground 2 crank 9 rod 9 arm 9;pair 0 1 1 0");
    are(x, new long[] {1, 1, 2}, "fit");
  }

  // ---- promise 49

  @Says(promise = 49, words = "-1: 1 (no DESK)")
  void p49_no_desk() {
    no(new CrankBranches(), -1, 1, "fitMiss", false);
    no(new CrankBranches(), -1, 1, "fitMiss", true);
  }

  @Says(promise = 49, words = "-1: 1 (no DESK); 5")
  void p49_no_pairs() {
    no(desk(ROUND), -1, 5, "fitMiss", false);
    no(desk(ROUND), -1, 5, "fitMiss", true);
  }

  @Says(promise = 49, words = "Its greatest CLOSING (without its sign)")
  void p49_without_its_sign_and_0_by_1() {
    fraction(fitting(2, "pair 0 1 0 1"), 0, 1, "fitMiss");
    fraction(fitting(18, "pair 1 0 0 1"), 76, 1, "fitMiss");
    // 16 + (1 - 1)(1 - 1) and 16 + (1 + 1)(1 + 1), less 4 4: 0 and 4; less 5 5: 9 below 0 and 5 below 0.
    CrankBranches x = fitting(4, "pair 1 1 1 1;pair 1 1 -1 1");
    are(x, new long[] {1, 4, 1}, "fit");
    fraction(x, 4, 1, "fitMiss");
    CrankBranches y = new CrankBranches();
    for (int times = 0; times < 3; times++) {
      Check.desk(y, "bars ground 4 crank 9 rod 9 arm 9;pair 5 5 5 5;pair 5 5 -5 5;pair 5 5 5 5;pair 5 5 -5 5");
      fraction(y, 4, 1, "fitMiss");
    }
    // Of both signs: 3 in each.
    fraction(fitting(2, "pair -3 1 5 1;pair -3 1 -1 1"), 3, 1, "fitMiss");
  }

  // ---- promise 50

  @Says(promise = 50, words = "Long.MIN_VALUE: 1 (no DESK")
  void p50_no_desk() {
    for (int what = 0; what < 3; what++) {
      no(new CrankBranches(), LOW, 1, "three", what, false);
      no(new CrankBranches(), LOW, 1, "three", what, true);
    }
  }

  @Says(promise = 50, words = "; what)")
  void p50_no_such_what() {
    onlyWithin(desk(FULL), LOW, "three", 3);
    no(desk(FULL), LOW, 1, "three", 3, true);
  }

  @Says(promise = 50, words = "5 (fewer than three PAIRS")
  void p50_fewer_than_three_pairs() {
    no(desk(ROUND), LOW, 5, "three", 0, false);
    no(desk(ROUND + ";pair 0 1 0 1"), LOW, 5, "three", 0, false);
    no(desk(ROUND + ";pair 0 1 0 1;pair 1 1 1 0"), LOW, 5, "three", 2, true);
    // Nothing of the PAIRS of a DESK before may be left.
    CrankBranches x = desk(THIRDS);
    Check.desk(x, ROUND + ";pair 0 1 0 1;pair 1 1 1 0");
    no(x, LOW, 5, "three", 0, false);
  }

  @Says(promise = 50, words = "; none)")
  void p50_none_because_there_are_many_rows() {
    no(desk(ROUND + ";pair 0 1 1 2;pair 1 1 1 0;pair 0 2 2 4"), LOW, 5, "three", 0, false);
    no(desk(ROUND + ";pair 0 1 0 1;pair 0 1 0 1;pair 0 1 0 1"), LOW, 5, "three", 1, true);
  }

  @Says(promise = 50, term = "III", words = "there are none, if not just one such row is")
  void p50_none_because_there_is_no_row() {
    // w is 1 by the first, and that less than nothing by the second.
    no(desk(ROUND + ";pair 1 1 1 1;pair 1 1 -1 1;pair 0 1 0 1"), LOW, 5, "three", 2, false);
  }

  @Says(promise = 50, term = "IV", words = ORDER)
  void p50_1_is_met_ahead_of_5() {
    no(desk(ROUND), LOW, 1, "three", 3, false);
    no(desk(ROUND), LOW, 1, "three", -1, true);
  }

  @Says(promise = 50, term = "III", words = "THREE: of PAIRS 0 to 2")
  void p50_of_the_first_three_pairs_alone() {
    // u - v + w is 1, w - u is 0, w + v is 0.
    for (String text : new String[] {THIRDS, THIRDS + ";pair 1 2 1 1", THIRDS + ";pair 0 1 0 1"}) {
      CrankBranches x = desk(text);
      fraction(x, 1, 3, "three", 0);
      fraction(x, -1, 3, "three", 1);
      fraction(x, 1, 3, "three", 2);
    }
  }

  @Says(promise = 50, term = "IV",
      words = "Fractions are told in lowest terms, the upper WHOLE (may be below 0) or the lower")
  void p50_in_lowest_terms_and_below_0_by_the_upper_one() {
    CrankBranches x = desk(ROUND + ";pair 1 1 1 2;pair 1 2 2 1;pair 2 1 1 3");
    fraction(x, 33, 25, "three", 0);
    fraction(x, -133, 75, "three", 1);
    fraction(x, 1, 125, "three", 2);
    CrankBranches y = desk(ROUND + ";pair -5 4 5 3;pair 5 5 -4 5;pair 3 5 5 0");
    fraction(y, -51856, 143909, "three", 0);
    fraction(y, -20056, 143909, "three", 1);
    fraction(y, -129016, 143909, "three", 2);
  }
}
