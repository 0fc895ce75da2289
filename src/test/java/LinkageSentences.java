/** Promises 9 to 17, and what the Terms say of lengths alone: one test for each sentence with a boundary. */
final class LinkageSentences extends Sentences {
  // ---- promise 9

  @Says(promise = 9, words = "NONE: 1")
  void p09_no_such_linkage_and_no_such_bar() {
    onlyWithin(desk(FULL), NONE, "bar", 4, 4);
    no(new CrankBranches(), NONE, 1, "bar", 0, 0);
  }

  @Says(promise = 9, words = "(0 ground, 1 crank, 2 rod, 3 arm)")
  void p09_the_first_bar_and_the_last() {
    are(bars(1, 18, 2, 17), new long[] {1, 18, 2, 17}, "bar", 0);
  }

  // ---- promise 10

  @Says(promise = 10, words = "NOTHING: 1")
  void p10_no_such_linkage() {
    onlyWithin(desk(FULL), NOTHING, "sums", 4);
    no(new CrankBranches(), NOTHING, 1, "sums", 0);
  }

  @Says(promise = 10, term = "III",
      words = "neither the greatest nor the least together, less the greatest and the least")
  void p10_of_like_lengths_one_alone_is_the_greatest_or_the_least() {
    is(bars(5, 5, 3, 2), 1, "sums", 0);
    is(bars(2, 2, 5, 4), -1, "sums", 0);
    is(bars(2, 5, 2, 5), 0, "sums", 0);
    is(bars(18, 18, 18, 18), 0, "sums", 0);
    is(bars(1, 18, 18, 18), 17, "sums", 0);
    is(bars(1, 1, 1, 18), -17, "sums", 0);
  }

  // ---- promise 11

  @Says(promise = 11, words = "NONE: 1")
  void p11_no_such_linkage() {
    onlyWithin(desk(FULL), NONE, "kind", 4);
    no(new CrankBranches(), NONE, 1, "kind", 0);
  }

  @Says(promise = 11, term = "III", words = "It can be BUILT, if the greatest is no more than all others together")
  void p11_the_greatest_as_long_as_all_others_can_be_built() {
    is(bars(3, 1, 1, 1), 6, "kind", 0);
    is(bars(1, 3, 1, 1), 6, "kind", 0);
    is(bars(5, 9, 5, 18), 6, "kind", 0);
    is(bars(5, 9, 4, 18), 6, "kind", 0);
    is(bars(5, 9, 3, 18), 5, "kind", 0);
  }

  @Says(promise = 11, term = "III", words = "5 if it can't be BUILT")
  void p11_one_that_can_not_be_built_is_5_though_its_sums_are_below_0() {
    is(bars(4, 1, 1, 1), 5, "kind", 0);
    is(bars(1, 4, 1, 1), 5, "kind", 0);
    is(bars(1, 1, 4, 1), 5, "kind", 0);
    is(bars(1, 1, 1, 4), 5, "kind", 0);
  }

  @Says(promise = 11, term = "III", words = "4 if SUMS is 0")
  void p11_sums_of_0_whatever_is_least() {
    is(bars(3, 3, 3, 3), 4, "kind", 0);
    is(bars(4, 1, 2, 3), 4, "kind", 0);
    is(bars(1, 4, 3, 2), 4, "kind", 0);
  }

  @Says(promise = 11, term = "III", words = "6 if SUMS is below 0")
  void p11_sums_of_1_below_0() {
    is(bars(9, 3, 7, 4), 6, "kind", 0);
    is(bars(9, 3, 7, 5), 4, "kind", 0);
  }

  @Says(promise = 11, term = "III",
      words = "else by the least length (there is one alone): 0 the crank's, 1 the ground's, 2 the rod's, 3 the arm's")
  void p11_sums_of_1_above_0_by_the_least_length() {
    is(bars(6, 2, 5, 4), 0, "kind", 0);
    is(bars(2, 6, 5, 4), 1, "kind", 0);
    is(bars(6, 5, 2, 4), 2, "kind", 0);
    is(bars(6, 5, 4, 2), 3, "kind", 0);
  }

  // ---- promise 12

  @Says(promise = 12, words = "NONE: 1")
  void p12_no_such_linkage() {
    onlyWithin(desk(FULL), NONE, "round", 4, 4);
    no(new CrankBranches(), NONE, 1, "round", 0, 0);
  }

  @Says(promise = 12, words = "(0 .. 3)")
  void p12_the_first_joint_and_the_last() {
    are(bars(6, 2, 5, 5), new long[] {1, 1, 0, 0}, "round", 0);
    are(bars(5, 5, 6, 2), new long[] {0, 0, 1, 1}, "round", 0);
    no(desk(ROUND), NONE, 1, "round", 0, 4);
    no(desk(ROUND), NONE, 1, "round", 0, -1);
  }

  /** At each JOINT: its two bars (o, w), and both others (s, t). */
  private void rounds(int o, int w, int s, int t, int want) {
    is(bars(w, o, s, t), want, "round", 0, 0);
    is(bars(s, w, o, t), want, "round", 0, 1);
    is(bars(s, t, w, o), want, "round", 0, 2);
    is(bars(o, s, t, w), want, "round", 0, 3);
  }

  @Says(promise = 12, term = "III", words = "of both others (s, t) the difference is no more than that of o and w")
  void p12_a_like_difference_goes_round_and_one_more_does_not() {
    rounds(4, 2, 5, 3, 1);
    rounds(2, 4, 3, 5, 1);
    rounds(4, 2, 6, 3, 0);
    rounds(2, 4, 3, 6, 0);
    rounds(1, 1, 4, 4, 1);
    rounds(1, 1, 5, 4, 0);
  }

  @Says(promise = 12, term = "III", words = "and o and w together are no more than s and t together")
  void p12_a_like_sum_goes_round_and_one_more_does_not() {
    rounds(3, 2, 3, 2, 1);
    rounds(2, 3, 3, 2, 1);
    rounds(4, 2, 3, 3, 1);
    rounds(4, 3, 3, 3, 0);
    rounds(3, 3, 3, 3, 1);
    rounds(4, 4, 4, 3, 0);
  }

  // ---- promises 13 and 14

  @Says(promise = 13, words = "Long.MIN_VALUE: 1")
  void p13_no_such_linkage() {
    onlyWithin(desk(FULL), LOW, "least", 4);
    no(desk(FULL), LOW, 1, "least", 4, true);
    no(new CrankBranches(), LOW, 1, "least", 0, false);
  }

  @Says(promise = 13, words = "5 (no COSINES)")
  void p13_no_cosines() {
    CrankBranches x = desk(FULL);
    no(x, LOW, 5, "least", 1, false);
    no(x, LOW, 5, "least", 1, true);
    no(bars(1, 1, 1, 4), LOW, 5, "least", 0, false);
  }

  @Says(promise = 13, term = "III", words = "LEAST, the greater of -1 and")
  void p13_least_is_never_below_1_less_than_nothing() {
    fraction(bars(6, 2, 5, 5), -1, 1, "least", 0);
    fraction(bars(3, 3, 3, 3), -1, 1, "least", 0);
    fraction(bars(4, 4, 1, 5), -1, 8, "least", 0);
    fraction(bars(5, 4, 3, 3), 1, 8, "least", 0);
  }

  @Says(promise = 13, term = "III", words = "at which K isn't below 0): from LEAST")
  void p13_the_least_cosine_of_all_may_be_the_greatest_there_is() {
    fraction(bars(3, 1, 1, 1), 1, 1, "least", 0);
  }

  @Says(promise = 14, words = "Long.MIN_VALUE: 1")
  void p14_no_such_linkage() {
    onlyWithin(desk(FULL), LOW, "most", 4);
    no(desk(FULL), LOW, 1, "most", 4, true);
    no(new CrankBranches(), LOW, 1, "most", 0, false);
  }

  @Says(promise = 14, words = "Long.MIN_VALUE: 1; 5")
  void p14_no_cosines() {
    CrankBranches x = desk(FULL);
    no(x, LOW, 5, "most", 1, false);
    no(x, LOW, 5, "most", 1, true);
    no(bars(1, 1, 1, 4), LOW, 5, "most", 0, false);
  }

  @Says(promise = 14, term = "III", words = "to MOST, the lesser of 1 and")
  void p14_most_is_never_above_1() {
    fraction(bars(6, 2, 5, 5), 1, 1, "most", 0);
    fraction(bars(3, 3, 3, 3), 1, 1, "most", 0);
    fraction(bars(4, 4, 1, 5), 1, 2, "most", 0);
    fraction(bars(2, 3, 2, 4), 3, 4, "most", 0);
    fraction(bars(4, 3, 6, 1), 0, 1, "most", 0);
  }

  @Says(promise = 14, term = "III", words = "none, if LEAST is more than MOST")
  void p14_there_are_cosines_where_least_is_most() {
    CrankBranches stretched = bars(3, 1, 1, 1);
    fraction(stretched, 1, 1, "most", 0);
    fraction(stretched, 1, 1, "least", 0);
    no(bars(4, 1, 1, 1), LOW, 5, "most", 0, false);
    CrankBranches folded = bars(1, 1, 1, 3);
    fraction(folded, -1, 1, "most", 0);
    fraction(folded, -1, 1, "least", 0);
    no(bars(1, 1, 1, 4), LOW, 5, "most", 0, false);
  }

  // ---- promise 15

  @Says(promise = 15, words = "NONE: 1")
  void p15_no_such_linkage() {
    onlyWithin(desk(FULL), NONE, "ends", 4);
    no(new CrankBranches(), NONE, 1, "ends", 0);
  }

  @Says(promise = 15, term = "III", words = "ENDS: each of these two fractions of its own, if it is no less than -1")
  void p15_a_fraction_of_1_below_0_is_an_end() {
    // (20 - x x) by 16 with x, that is b + c, 6, 7 and 5; the other fraction is above 1.
    is(bars(4, 2, 3, 3), 1, "ends", 0);
    is(bars(4, 2, 4, 3), 0, "ends", 0);
    is(bars(4, 2, 3, 2), 1, "ends", 0);
  }

  @Says(promise = 15, term = "III", words = "and no more than 1 (two of one are one)")
  void p15_a_fraction_of_1_is_an_end() {
    // (13 - x x) by 12 with x, that is b - c, 1, 2 and 0; the other fraction is below -1.
    is(bars(3, 2, 5, 4), 1, "ends", 0);
    is(bars(3, 2, 6, 4), 1, "ends", 0);
    is(bars(3, 2, 5, 5), 0, "ends", 0);
  }

  @Says(promise = 15, term = "III", words = "ENDS: each of these two fractions of its own")
  void p15_there_are_none_without_cosines() {
    is(desk(FULL), 0, "ends", 1);
    is(bars(1, 1, 1, 4), 0, "ends", 0);
    is(bars(4, 4, 1, 5), 2, "ends", 0);
  }

  // ---- promise 16

  @Says(promise = 16, words = "NONE: 1")
  void p16_no_such_linkage() {
    onlyWithin(desk(FULL), NONE, "arcs", 4);
    no(new CrankBranches(), NONE, 1, "arcs", 0);
  }

  @Says(promise = 16, term = "III", words = "ARCS: 1 if LEAST is -1 or MOST is 1, else 2")
  void p16_one_arc_where_an_end_of_the_cosines_is_reached() {
    is(bars(6, 2, 5, 5), 1, "arcs", 0);
    is(bars(4, 3, 6, 1), 1, "arcs", 0);
    is(bars(5, 4, 3, 3), 1, "arcs", 0);
    is(bars(3, 1, 1, 1), 1, "arcs", 0);
    is(bars(4, 4, 1, 5), 2, "arcs", 0);
  }

  @Says(promise = 16, term = "III", words = "else 2; none: 0")
  void p16_none_without_cosines() {
    is(desk(FULL), 0, "arcs", 1);
    is(bars(1, 1, 1, 4), 0, "arcs", 0);
  }

  // ---- promise 17

  @Says(promise = 17, words = "NONE: 1")
  void p17_no_such_linkage() {
    onlyWithin(desk(FULL), NONE, "circuits", 4);
    no(new CrankBranches(), NONE, 1, "circuits", 0);
  }

  @Says(promise = 17, term = "III", words = "CIRCUITS: none: 0")
  void p17_none_without_cosines() {
    is(desk(FULL), 0, "circuits", 1);
    is(bars(1, 1, 1, 4), 0, "circuits", 0);
  }

  @Says(promise = 17, term = "III", words = "if it GOES ROUND at JOINT 0 and there are no ENDS: 2")
  void p17_going_round_with_an_end_it_has_one() {
    is(bars(6, 2, 5, 5), 2, "circuits", 0);
    is(bars(2, 6, 5, 5), 2, "circuits", 0);
    CrankBranches x = bars(3, 3, 3, 3);
    is(x, 1, "round", 0, 0);
    is(x, 1, "circuits", 0);
    CrankBranches y = bars(4, 2, 5, 3);
    is(y, 1, "round", 0, 0);
    is(y, 1, "circuits", 0);
  }

  @Says(promise = 17, term = "III", words = "else as many as there are ARCS")
  void p17_else_as_many_as_arcs() {
    is(bars(4, 4, 1, 5), 2, "circuits", 0);
    is(bars(4, 3, 6, 1), 1, "circuits", 0);
    is(bars(5, 4, 3, 3), 1, "circuits", 0);
    is(bars(3, 1, 1, 1), 1, "circuits", 0);
  }
}
