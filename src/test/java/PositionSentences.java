/** Promises 18 to 30, and what the Terms say of positions: one test for each sentence with a boundary. */
final class PositionSentences extends Sentences {
  private static final String ORDER = "Refusals of a call are met in the order in which they are told";

  // ---- promise 18

  @Says(promise = 18, words = "NONE: 1")
  void p18_no_such_linkage_and_no_such_angle() {
    onlyWithin(desk(FULL), NONE, "lawful", 4, 40);
    no(new CrankBranches(), NONE, 1, "lawful", 0, 0);
  }

  @Says(promise = 18, term = "II", words = "LAWFUL: S is above 0")
  void p18_where_S_is_0_it_is_not_lawful_though_K_is_0() {
    CrankBranches x = desk(RHOMBUS);
    fraction(x, 0, 1, "span", 0, 19);
    is(x, 0, "under", 0, 19);
    is(x, 0, "lawful", 0, 19);
    is(x, 1, "lawful", 0, 18);
    is(x, 1, "lawful", 0, 20);
    // S is 1.
    CrankBranches y = bars(2, 1, 1, 1);
    fraction(y, 1, 1, "span", 0, 19);
    is(y, 1, "lawful", 0, 19);
  }

  @Says(promise = 18, term = "II", words = "K 0 at least")
  void p18_where_K_is_below_0_it_is_not_lawful() {
    CrankBranches x = desk(ARCS);
    is(x, 1, "lawful", 0, 9);
    is(x, 0, "lawful", 0, 8);
    is(x, 1, "lawful", 0, 13);
    is(x, 0, "lawful", 0, 14);
    due("K of the 8th is below 0", x.under(0, 8) < 0 ? 1 : 0, 1);
  }

  @Says(promise = 18, term = "II", words = "DEAD: LAWFUL, and K is 0")
  void p18_where_K_is_0_it_is_dead() {
    CrankBranches x = desk(STOPS);
    for (int k : new int[] {9, 29, 39}) {
      is(x, 0, "under", 0, k);
      is(x, 2, "lawful", 0, k);
    }
    is(x, 1, "lawful", 0, 8);
    is(x, 0, "lawful", 0, 10);
    is(x, 0, "lawful", 0, 28);
    is(x, 1, "lawful", 0, 30);
  }

  // ---- promises 19 and 20

  @Says(promise = 19, words = "NONE: 1")
  void p19_no_such_linkage() {
    onlyWithin(desk(FULL), NONE, "lawfuls", 4);
    no(new CrankBranches(), NONE, 1, "lawfuls", 0);
  }

  @Says(promise = 19, words = "How many of THE TURN are LAWFUL")
  void p19_none_all_and_dead_ones_too() {
    are(desk(FULL), new long[] {40, 0, 39, 10}, "lawfuls");
    is(desk(STOPS), 21, "lawfuls", 0);
    is(desk(FLAT), 1, "lawfuls", 0);
  }

  @Says(promise = 19, term = "III", words = "(C by N of all angles, in THE TURN or not, at which K isn't below 0)")
  void p19_there_may_be_cosines_and_none_of_them_in_the_turn() {
    // 597 and 609 by 612 are both between 12 by 13, that of 1 by 5, and 1.
    CrankBranches x = bars(18, 17, 3, 1);
    is(x, 0, "lawfuls", 0);
    fraction(x, 199, 204, "least", 0);
    fraction(x, 203, 204, "most", 0);
    is(x, 2, "arcs", 0);
    is(x, -2, "easiest", 0);
  }

  @Says(promise = 20, words = "NONE: 1")
  void p20_no_such_linkage() {
    onlyWithin(desk(FULL), NONE, "deads", 4);
    no(new CrankBranches(), NONE, 1, "deads", 0);
  }

  @Says(promise = 20, words = "How many of THE TURN are DEAD")
  void p20_none_and_the_last_of_the_turn_too() {
    are(desk(FULL), new long[] {0, 0, 1, 0}, "deads");
    is(desk(STOPS), 3, "deads", 0);
    is(desk(FLAT), 1, "deads", 0);
  }

  // ---- promise 21

  @Says(promise = 21, words = "NONE: 1")
  void p21_no_such_linkage_and_no_such_angle() {
    onlyWithin(desk(FULL), NONE, "between", 4, 40);
    no(new CrankBranches(), NONE, 1, "between", 0, 0);
  }

  @Says(promise = 21, words = "between (neither)")
  void p21_an_end_at_an_angle_is_between_none() {
    CrankBranches x = desk(STOPS);
    is(x, 2, "ends", 0);
    CrankBranches y = desk(RHOMBUS);
    is(y, 2, "ends", 0);
    for (int k = 0; k < 40; k++) {
      is(x, 0, "between", 0, k);
      is(y, 0, "between", 0, k);
    }
  }

  @Says(promise = 21, words = "How many ENDS are a cosine between")
  void p21_none_one_or_both_ends() {
    CrankBranches x = desk(ARCS);
    for (int k = 0; k < 40; k++) {
      is(x, k == 8 || k == 13 || k == 24 || k == 29 ? 1 : 0, "between", 0, k);
    }
    // 597 and 609 by 612, both of them between 12 by 13, that of 1 by 5, and 1.
    CrankBranches y = bars(18, 17, 3, 1);
    is(y, 2, "between", 0, 18);
    is(y, 2, "between", 0, 19);
    is(y, 0, "between", 0, 17);
    is(y, 0, "between", 0, 20);
    // Neither fraction is an END: both are out of -1 to 1.
    is(desk(APART), 0, "between", 0, 18);
    is(desk(ROUND), 0, "between", 0, 39);
  }

  @Says(promise = 21, term = "II", words = "behind the last one the first one comes again")
  void p21_behind_the_last_one_the_first_comes() {
    // From the cosine -1 to -12 by 13 there is no room for an END of bars up to 18; ENDS elsewhere don't count.
    is(bars(18, 17, 17, 17), 0, "between", 0, 39);
    is(bars(18, 17, 17, 17), 0, "between", 0, 38);
    is(bars(18, 17, 3, 1), 0, "between", 0, 39);
    is(desk(ARCS), 0, "between", 0, 39);
    is(bars(18, 18, 17, 18), 0, "between", 0, 39);
  }

  // ---- promises 22 and 23

  @Says(promise = 22, words = "-1: 1")
  void p22_no_such_linkage_and_no_such_angle() {
    onlyWithin(desk(FULL), -1, "span", 4, 40);
    no(desk(FULL), -1, 1, "span", 0, 40, true);
    no(new CrankBranches(), -1, 1, "span", 0, 0, false);
  }

  @Says(promise = 22, term = "IV", words = "Fractions are told in lowest terms")
  void p22_in_lowest_terms_where_it_is_nothing_and_where_not_lawful_too() {
    CrankBranches x = desk(FULL);
    fraction(x, 0, 1, "span", 2, 19);
    fraction(x, 289, 1, "span", 1, 19);
    fraction(x, 361, 1, "span", 1, 39);
    fraction(x, 128, 5, "span", 0, 24);
    fraction(x, 40, 1, "span", 0, 29);
    fraction(x, 808, 13, "span", 0, 0);
  }

  @Says(promise = 23, words = "Long.MIN_VALUE: 1")
  void p23_no_such_linkage_and_no_such_angle() {
    onlyWithin(desk(FULL), LOW, "under", 4, 40);
    no(new CrankBranches(), LOW, 1, "under", 0, 0);
  }

  @Says(promise = 23, term = "II", words = "K is 4 b b S N - E E")
  void p23_K_may_be_0_or_below_it() {
    CrankBranches x = desk(FULL);
    is(x, 0, "under", 2, 19);
    is(x, 0, "under", 2, 39);
    is(x, 4 * 289 - 289 * 289, "under", 1, 19);
    is(x, 4 * 361 - 361 * 361, "under", 1, 39);
    // S is (324 + 324) 41 - 648 * 9 at 4 by 5, E is S + (324 - 1) 41.
    long s = 648 * 41 - 648 * 9;
    is(bars(18, 18, 18, 1), 4 * 324 * s * 41 - (s + 323 * 41) * (s + 323 * 41), "under", 0, 28);
  }

  // ---- promise 24

  @Says(promise = 24, words = "NOTHING: 1")
  void p24_no_such_linkage_angle_branch_or_what() {
    onlyWithin(desk(FULL), NOTHING, "joint", 4, 40, 2, 2);
    no(new CrankBranches(), NOTHING, 1, "joint", 0, 0, 0, 0);
  }

  @Says(promise = 24, words = "NOTHING: 1; 5")
  void p24_not_lawful() {
    CrankBranches x = desk(FULL);
    no(x, NOTHING, 5, "joint", 2, 19, 0, 0);
    no(x, NOTHING, 5, "joint", 1, 0, 1, 1);
    no(x, NOTHING, 5, "joint", 3, 8, 0, 0);
    is(x, 0, "joint", 2, 39, 0, 0);
  }

  @Says(promise = 24, term = "IV", words = ORDER)
  void p24_1_is_met_ahead_of_5() {
    CrankBranches x = desk(FULL);
    no(x, NOTHING, 1, "joint", 2, 19, 2, 0);
    no(x, NOTHING, 1, "joint", 2, 19, 0, 2);
  }

  @Says(promise = 24, term = "IV", words = "linkages: 1 (no such LINKAGE, ANGLE, BRANCH, what)")
  void p24_each_that_there_is_not_is_enough() {
    CrankBranches x = desk(FULL);
    is(x, 46, "joint", 0, 29, 0, 1);
    no(x, NOTHING, 1, "joint", 4, 29, 0, 1);
    no(x, NOTHING, 1, "joint", 0, 40, 0, 1);
    no(x, NOTHING, 1, "joint", 0, 29, 2, 1);
    no(x, NOTHING, 1, "joint", 0, 29, 0, 2);
    no(x, NOTHING, 1, "joint", 4, 40, 2, 2);
  }

  @Says(promise = 24, term = "II", words = "TENTHS of a number: the greatest WHOLE that is no more than ten times it")
  void p24_tenths_below_0_go_down_and_whole_ones_stay() {
    CrankBranches x = desk(FULL);
    // y is the root of 21, about 4.58.
    is(x, 45, "joint", 0, 19, 0, 1);
    is(x, -46, "joint", 0, 19, 1, 1);
    is(x, 30, "joint", 0, 39, 0, 1);
    is(x, -30, "joint", 0, 39, 1, 1);
    is(x, 0, "joint", 2, 29, 1, 0);
    is(x, -27, "joint", 0, 29, 1, 1);
    // Ten times y is 20 by 8 times the root of 135, 29.05; and of 231, 37.997.
    is(bars(1, 1, 3, 4), 29, "joint", 0, 39, 0, 1);
    is(bars(1, 1, 3, 4), -30, "joint", 0, 39, 1, 1);
    is(bars(1, 1, 4, 5), 37, "joint", 0, 39, 0, 1);
    is(bars(1, 1, 4, 5), -38, "joint", 0, 39, 1, 1);
  }

  @Says(promise = 24, term = "II", words = "R is the root of K for BRANCH 0, that less than nothing for 1")
  void p24_at_a_dead_one_both_branches_are_one() {
    CrankBranches x = desk(STOPS);
    for (int branch = 0; branch < 2; branch++) {
      is(x, 48, "joint", 0, 9, branch, 0);
      is(x, 6, "joint", 0, 9, branch, 1);
      is(x, 48, "joint", 0, 29, branch, 0);
      is(x, -6, "joint", 0, 29, branch, 1);
      is(x, 30, "joint", 0, 39, branch, 0);
      is(x, 0, "joint", 0, 39, branch, 1);
    }
  }

  // ---- promise 25

  @Says(promise = 25, words = "Long.MIN_VALUE: 1")
  void p25_no_such_linkage_angle_branch_or_what() {
    onlyWithin(desk(FULL), LOW, "exact", 4, 40, 2, 6);
    no(new CrankBranches(), LOW, 1, "exact", 0, 0, 0, 0);
  }

  @Says(promise = 25, words = "Long.MIN_VALUE: 1; 5")
  void p25_not_lawful() {
    CrankBranches x = desk(FULL);
    for (int what = 0; what < 6; what++) {
      no(x, LOW, 5, "exact", 2, 19, 0, what);
    }
    no(x, LOW, 5, "exact", 1, 0, 0, 0);
  }

  @Says(promise = 25, term = "IV", words = ORDER)
  void p25_1_is_met_ahead_of_5() {
    CrankBranches x = desk(FULL);
    no(x, LOW, 1, "exact", 2, 19, 0, 6);
    no(x, LOW, 1, "exact", 2, 19, -1, 0);
  }

  @Says(promise = 25, words = "u, v, w without a common divisor, w above 0")
  void p25_without_a_divisor_where_u_or_v_or_both_are_0() {
    CrankBranches x = desk(FULL);
    are(x, new long[] {4, 0, 1, 0, 1, 8}, "exact", 0, 19, 0);
    are(x, new long[] {4, 0, 1, 0, -1, 8}, "exact", 0, 19, 1);
    are(x, new long[] {36, 1, 24, 36, 1, 24}, "exact", 2, 29, 0);
    are(x, new long[] {36, -1, 24, 36, -1, 24}, "exact", 2, 29, 1);
    are(x, new long[] {2, 0, 1, 0, 1, 16}, "exact", 0, 39, 0);
    are(x, new long[] {0, 0, 1, 0, 1, 12}, "exact", 2, 39, 0);
  }

  // ---- promise 26

  @Says(promise = 26, words = "NONE: 1")
  void p26_no_such_linkage_angle_or_branch() {
    onlyWithin(desk(FULL), NONE, "circuit", 4, 40, 2);
    no(new CrankBranches(), NONE, 1, "circuit", 0, 0, 0);
  }

  @Says(promise = 26, words = "NONE: 1; 5")
  void p26_not_lawful() {
    CrankBranches x = desk(FULL);
    no(x, NONE, 5, "circuit", 2, 19, 0);
    no(x, NONE, 5, "circuit", 1, 0, 0);
    no(x, NONE, 5, "circuit", 3, 14, 1);
  }

  @Says(promise = 26, term = "IV", words = ORDER)
  void p26_1_is_met_ahead_of_5() {
    no(desk(FULL), NONE, 1, "circuit", 2, 19, 2);
  }

  @Says(promise = 26, term = "III", words = "of each BRANCH one (its number)")
  void p26_going_round_it_is_the_branch() {
    CrankBranches x = desk(ROUND);
    for (int k : new int[] {0, 18, 19, 20, 39}) {
      is(x, 0, "circuit", 0, k, 0);
      is(x, 1, "circuit", 0, k, 1);
    }
    is(desk(RHOMBUS), 0, "circuit", 0, 29, 1);
  }

  @Says(promise = 26, term = "III", words = "(of two: 0 with D above 0, 1 with D below 0; of one: 0)")
  void p26_of_two_arcs_by_the_side_and_of_one_0() {
    CrankBranches x = desk(ARCS);
    is(x, 0, "circuit", 0, 25, 0);
    is(x, 0, "circuit", 0, 29, 1);
    is(x, 1, "circuit", 0, 9, 0);
    is(x, 1, "circuit", 0, 13, 1);
    CrankBranches y = desk(STOPS);
    for (int k : new int[] {0, 9, 29, 39}) {
      is(y, 0, "circuit", 0, k, 0);
      is(y, 0, "circuit", 0, k, 1);
    }
    is(desk(FLAT), 0, "circuit", 0, 19, 1);
  }

  // ---- promise 27

  @Says(promise = 27, words = "Long.MIN_VALUE: 1")
  void p27_no_such_linkage_and_no_such_angle() {
    onlyWithin(desk(FULL), LOW, "force", 4, 40);
    no(new CrankBranches(), LOW, 1, "force", 0, 0, true);
  }

  @Says(promise = 27, words = "5 (not LAWFUL)")
  void p27_not_lawful() {
    CrankBranches x = desk(FULL);
    no(x, LOW, 5, "force", 2, 19, false);
    no(x, LOW, 5, "force", 1, 39, true);
    fraction(x, -1, 1, "force", 2, 39);
  }

  @Says(promise = 27, term = "III", words = "(the cosine of the angle between rod and arm)")
  void p27_at_dead_ones_it_is_1_or_that_less_than_nothing() {
    CrankBranches x = desk(STOPS);
    fraction(x, 1, 1, "force", 0, 9);
    fraction(x, 1, 1, "force", 0, 29);
    fraction(x, -1, 1, "force", 0, 39);
    fraction(desk(RHOMBUS), 0, 1, "force", 0, 29);
    fraction(desk(ROUND), -7, 25, "force", 0, 39);
  }

  // ---- promise 28

  @Says(promise = 28, words = "NONE: 1")
  void p28_no_such_linkage() {
    onlyWithin(desk(FULL), NONE, "easiest", 4);
    no(new CrankBranches(), NONE, 1, "easiest", 0);
  }

  @Says(promise = 28, words = "of several the first")
  void p28_of_several_the_first() {
    CrankBranches x = desk(RHOMBUS);
    fraction(x, 0, 1, "force", 0, 9);
    fraction(x, 0, 1, "force", 0, 29);
    is(x, 9, "easiest", 0);
  }

  @Says(promise = 28, words = "The LAWFUL ANGLE of THE TURN with the least FORCE")
  void p28_it_may_be_the_first_of_the_turn_or_the_last() {
    is(bars(3, 7, 7, 7), 0, "easiest", 0);
    is(bars(1, 1, 1, 2), 39, "easiest", 0);
  }

  @Says(promise = 28, words = "; -2")
  void p28_none_is_lawful() {
    is(desk(FULL), -2, "easiest", 1);
  }

  @Says(promise = 28, words = "(without its sign)")
  void p28_the_least_without_its_sign() {
    // FORCE is (50 - S by N) by 50: at 3 by 2 it is 1 by 65, at 5 by 3 11 by 425 below 0.
    CrankBranches x = desk(ROUND);
    is(x, 6, "easiest", 0);
    fraction(x, 1, 65, "force", 0, 6);
    fraction(x, -7, 25, "force", 0, 39);
    CrankBranches y = bars(1, 2, 1, 1);
    is(y, 15, "easiest", 0);
    fraction(y, -3, 58, "force", 0, 15);
    is(desk(FLAT), 19, "easiest", 0);
  }

  // ---- promise 29

  @Says(promise = 29, words = "Long.MIN_VALUE: 1")
  void p29_no_such_linkage() {
    onlyWithin(desk(FULL), LOW, "swing", 4);
    no(new CrankBranches(), LOW, 1, "swing", 0, true, true);
  }

  @Says(promise = 29, words = "5 (no COSINES)")
  void p29_no_cosines() {
    CrankBranches x = desk(FULL);
    no(x, LOW, 5, "swing", 1, false, false);
    no(x, LOW, 5, "swing", 1, true, true);
  }

  @Says(promise = 29, words = "SWING at MOST, or at LEAST")
  void p29_at_ends_it_is_1_or_that_less_than_nothing() {
    CrankBranches x = desk(FULL);
    fraction(x, 1, 1, "swing", 3, true);
    fraction(x, -1, 1, "swing", 3, false);
    fraction(x, 17, 25, "swing", 0, true);
    fraction(x, -7, 25, "swing", 0, false);
    fraction(desk(FLAT), -1, 1, "swing", 0, true);
    fraction(desk(FLAT), -1, 1, "swing", 0, false);
  }

  // ---- promise 30

  @Says(promise = 30, words = "Long.MIN_VALUE: 1")
  void p30_no_such_linkage_angle_branch_or_what() {
    onlyWithin(desk(FULL), LOW, "rate", 4, 40, 2, 3);
    no(new CrankBranches(), LOW, 1, "rate", 0, 0, 0, 0);
  }

  @Says(promise = 30, words = "Long.MIN_VALUE: 1; 5")
  void p30_not_lawful() {
    CrankBranches x = desk(FULL);
    no(x, LOW, 5, "rate", 2, 19, 0, 0);
    no(x, LOW, 5, "rate", 1, 0, 1, 2);
  }

  @Says(promise = 30, words = "5 (DEAD, too)")
  void p30_dead_too() {
    no(desk(FULL), LOW, 5, "rate", 2, 39, 0, 0);
    CrankBranches x = desk(STOPS);
    for (int k : new int[] {9, 29, 39}) {
      no(x, LOW, 5, "rate", 0, k, 1, 2);
    }
    answer(x, "rate", 0, 8, 1, 2);
    is(x, 0, "trouble");
  }

  @Says(promise = 30, term = "IV", words = ORDER)
  void p30_1_is_met_ahead_of_5() {
    CrankBranches x = desk(FULL);
    no(x, LOW, 1, "rate", 2, 39, 0, 3);
    no(x, LOW, 1, "rate", 2, 19, 2, 0);
  }

  @Says(promise = 30, words = "(u + v root of K) by w, likewise")
  void p30_without_a_divisor_and_w_above_0() {
    CrankBranches x = desk(FULL);
    are(x, new long[] {1, 0, 4}, "rate", 0, 39, 0);
    are(x, new long[] {-1, 0, 2}, "rate", 0, 19, 0);
    are(x, new long[] {36, 1, 72}, "rate", 2, 29, 0);
    are(x, new long[] {36, -1, 72}, "rate", 2, 29, 1);
  }
}
