/** Promises 51 to 57, and what the Terms say of WALKS and ACTS: one test for each sentence with a boundary. */
final class WalkSentences extends Sentences {
  private static final String ORDER = "Refusals of a call are met in the order in which they are told";

  private CrankBranches walking(String text, int k, int branch) {
    CrankBranches x = desk(text);
    is(x, 1, "begin", 0, k, branch);
    return x;
  }

  private void at(CrankBranches x, long l, long k, long branch, long moves) {
    are(x, new long[] {l, k, branch, moves}, "walk");
  }

  // ---- promise 51

  @Says(promise = 51, words = "false: 1")
  void p51_no_such_linkage_angle_or_branch() {
    onlyWithin(desk(FULL), 0, "begin", 4, 40, 2);
    no(new CrankBranches(), 0, 1, "begin", 0, 0, 0);
  }

  @Says(promise = 51, words = "5 (not LAWFUL)")
  void p51_not_lawful() {
    CrankBranches x = desk(FULL);
    no(x, 0, 5, "begin", 2, 19, 0);
    no(x, 0, 5, "begin", 1, 0, 0);
    no(x, NONE, 5, "walk", 0);
    is(x, 1, "begin", 2, 39, 0);
    is(walking(FLAT, 19, 1), 19, "walk", 1);
  }

  @Says(promise = 51, term = "IV", words = ORDER)
  void p51_1_is_met_ahead_of_5() {
    no(desk(FULL), 0, 1, "begin", 2, 19, 2);
    no(desk(FULL), 0, 1, "begin", 1, 40, 0);
  }

  @Says(promise = 51, words = "THE WALK begins at the k-th ANGLE, in a BRANCH, of a LINKAGE: true")
  void p51_a_refused_one_leaves_the_walk_and_another_begins_anew() {
    CrankBranches x = desk(FULL);
    is(x, 1, "begin", 0, 7, 1);
    is(x, 3, "steps", 3);
    no(x, 0, 5, "begin", 2, 19, 0);
    no(x, 0, 1, "begin", 4, 0, 0);
    at(x, 0, 10, 1, 3);
    is(x, 1, "begin", 3, 29, 0);
    at(x, 3, 29, 0, 0);
  }

  // ---- promise 52

  @Says(promise = 52, words = "NONE: 1 (what)")
  void p52_no_such_what() {
    onlyWithin(walking(ROUND, 0, 0), NONE, "walk", 4);
  }

  @Says(promise = 52, words = "5 (there is none)")
  void p52_there_is_no_walk() {
    CrankBranches x = desk(ROUND);
    for (int what = 0; what < 4; what++) {
      no(x, NONE, 5, "walk", what);
    }
  }

  @Says(promise = 52, term = "IV", words = ORDER)
  void p52_1_is_met_ahead_of_5() {
    no(desk(ROUND), NONE, 1, "walk", 4);
    no(new CrankBranches(), NONE, 1, "walk", -1);
  }

  @Says(promise = 52, words = "3 STEPS and FLIPS since it began")
  void p52_steps_back_and_flips_count_and_what_was_not_done_does_not() {
    CrankBranches x = walking(RHOMBUS, 39, 0);
    at(x, 0, 39, 0, 0);
    is(x, 1, "flip");
    is(x, 1, "steps", -1);
    is(x, 1, "steps", 1);
    at(x, 0, 39, 1, 3);
    is(x, 19, "steps", 100);
    no(x, NONE, 5, "flip");
    is(x, 0, "steps", 5);
    at(x, 0, 18, 1, 22);
  }

  // ---- promise 53

  @Says(promise = 53, words = "NONE: 5 (no WALK)")
  void p53_no_walk() {
    no(desk(ROUND), NONE, 5, "steps", 1);
    no(desk(ROUND), NONE, 5, "steps", 0);
    no(new CrankBranches(), NONE, 5, "steps", -1);
  }

  @Says(promise = 53, words = "NONE: 5 (no WALK); 2")
  void p53_n_too_small_or_too_large() {
    CrankBranches x = walking(ROUND, 5, 0);
    for (int n : new int[] {Integer.MIN_VALUE, -101, 101, Integer.MAX_VALUE}) {
      no(x, NONE, 2, "steps", n);
    }
    at(x, 0, 5, 0, 0);
  }

  @Says(promise = 53, term = "IV", words = ORDER)
  void p53_5_is_met_ahead_of_2() {
    no(desk(ROUND), NONE, 5, "steps", 101);
    no(desk(ROUND), NONE, 5, "steps", -101);
  }

  @Says(promise = 53, words = "(below 0: back; -100 .. 100)")
  void p53_n_at_its_bounds() {
    CrankBranches x = walking(ROUND, 5, 0);
    is(x, 100, "steps", 100);
    at(x, 0, 25, 0, 100);
    is(x, 100, "steps", -100);
    at(x, 0, 5, 0, 200);
    is(x, 0, "steps", 0);
    at(x, 0, 5, 0, 200);
  }

  @Says(promise = 53, words = "as many as can be: how many were done")
  void p53_as_many_as_can_be() {
    CrankBranches x = walking(ARCS, 27, 1);
    is(x, 2, "steps", 3);
    is(x, 29, "walk", 1);
    is(x, 0, "steps", 1);
    is(x, 4, "steps", -100);
    is(x, 25, "walk", 1);
    is(x, 0, "steps", -1);
    is(x, 2, "steps", 2);
    is(x, 27, "walk", 1);
    CrankBranches y = walking(FLAT, 19, 0);
    is(y, 0, "steps", 100);
    is(y, 0, "steps", -100);
  }

  @Says(promise = 53, term = "II", words = "behind the last one the first one comes again")
  void p53_on_from_the_last_and_back_from_the_first() {
    CrankBranches x = walking(ROUND, 39, 1);
    is(x, 1, "steps", 1);
    at(x, 0, 0, 1, 1);
    is(x, 1, "steps", -1);
    at(x, 0, 39, 1, 2);
  }

  @Says(promise = 53, term = "III",
      words = "A STEP goes to the next ANGLE on, or back, if that is LAWFUL, in its BRANCH")
  void p53_through_a_dead_one_in_its_branch() {
    CrankBranches x = walking(STOPS, 38, 1);
    is(x, 2, "steps", 2);
    at(x, 0, 0, 1, 2);
    is(x, 9, "steps", 100);
    at(x, 0, 9, 1, 11);
    is(x, 20, "steps", -100);
    at(x, 0, 29, 1, 31);
  }

  // ---- promise 54

  @Says(promise = 54, words = "NONE: 5 (no WALK")
  void p54_no_walk() {
    no(new CrankBranches(), NONE, 5, "flip");
    no(desk(FLAT), NONE, 5, "flip");
  }

  @Says(promise = 54, words = "; not DEAD)")
  void p54_not_dead() {
    CrankBranches x = walking(RHOMBUS, 38, 0);
    no(x, NONE, 5, "flip");
    at(x, 0, 38, 0, 0);
    is(x, 1, "steps", 1);
    is(x, 1, "flip");
    is(x, 1, "steps", 1);
    no(x, NONE, 5, "flip");
  }

  @Says(promise = 54, term = "III", words = "a FLIP, at a DEAD one, to the other BRANCH")
  void p54_to_the_other_branch_and_back() {
    CrankBranches x = walking(FLAT, 19, 1);
    is(x, 0, "flip");
    is(x, 1, "flip");
    at(x, 0, 19, 1, 2);
  }

  // ---- promise 55

  @Says(promise = 55, words = "NONE: 5 (no WALK)")
  void p55_no_walk() {
    no(desk(ROUND), NONE, 5, "away", 0, 0);
    no(new CrankBranches(), NONE, 5, "away", 0, 0);
  }

  @Says(promise = 55, words = "NONE: 5 (no WALK); 1")
  void p55_no_such_angle_and_no_such_branch() {
    onlyWithin(walking(ROUND, 0, 0), NONE, "away", 40, 2);
  }

  @Says(promise = 55, term = "IV", words = ORDER)
  void p55_5_is_met_ahead_of_1() {
    no(desk(ROUND), NONE, 5, "away", 40, 0);
    no(desk(ROUND), NONE, 5, "away", 0, -1);
  }

  @Says(promise = 55, words = "-2 it can't be")
  void p55_it_can_not_be() {
    CrankBranches x = walking(ROUND, 7, 0);
    is(x, -2, "away", 7, 1);
    CrankBranches y = walking(ARCS, 25, 0);
    is(y, -2, "away", 13, 0);
    is(y, -2, "away", 24, 0);
    is(y, -2, "away", 25, 1);
    is(walking(RHOMBUS, 39, 0), -2, "away", 19, 0);
  }

  @Says(promise = 55, words = "The fewest STEPS and FLIPS to the k-th ANGLE in a BRANCH")
  void p55_none_where_it_is_and_the_nearer_way_else() {
    CrankBranches x = walking(ROUND, 0, 0);
    is(x, 0, "away", 0, 0);
    is(x, 20, "away", 20, 0);
    is(x, 19, "away", 19, 0);
    is(x, 19, "away", 21, 0);
    CrankBranches y = walking(RHOMBUS, 18, 0);
    is(y, 38, "away", 20, 0);
    is(y, 39, "away", 18, 1);
    is(y, 20, "away", 39, 1);
    at(y, 0, 18, 0, 0);
  }

  @Says(promise = 55, term = "II", words = "behind the last one the first one comes again")
  void p55_around_the_end_of_the_turn() {
    is(walking(ROUND, 39, 0), 1, "away", 0, 0);
    is(walking(ROUND, 0, 1), 1, "away", 39, 1);
    is(walking(STOPS, 30, 1), 19, "away", 9, 1);
  }

  // ---- promise 56

  @Says(promise = 56, words = "NONE: 1")
  void p56_no_such_linkage_and_no_such_bar() {
    CrankBranches x = desk(FULL);
    for (int stray : new int[] {Integer.MIN_VALUE, -1, 4, Integer.MAX_VALUE}) {
      no(x, NONE, 1, "reshape", stray, 0, 1);
      no(x, NONE, 1, "reshape", 0, stray, 1);
    }
    no(new CrankBranches(), NONE, 1, "reshape", 0, 0, 1);
    is(x, 0, "size", 4);
  }

  @Says(promise = 56, words = "A length of a LINKAGE's bar (0 .. 3)")
  void p56_the_first_bar_and_the_last_and_no_other() {
    CrankBranches x = desk(FULL);
    is(x, 6, "reshape", 0, 0, 7);
    is(x, 5, "reshape", 3, 3, 8);
    are(x, new long[] {7, 2, 5, 5}, "bar", 0);
    are(x, new long[] {4, 4, 1, 8}, "bar", 3);
  }

  @Says(promise = 56, words = "NONE: 1; 2")
  void p56_a_length_too_small_or_too_large() {
    CrankBranches x = desk(FULL);
    for (int length : new int[] {Integer.MIN_VALUE, -1, 0, 19, Integer.MAX_VALUE}) {
      no(x, NONE, 2, "reshape", 0, 0, length);
    }
    is(x, 6, "bar", 0, 0);
    is(x, 0, "size", 4);
  }

  @Says(promise = 56, words = "(1 .. 18")
  void p56_lengths_of_1_and_of_18() {
    CrankBranches x = desk(FULL);
    is(x, 6, "reshape", 0, 0, 1);
    is(x, 1, "reshape", 0, 0, 18);
    is(x, 18, "bar", 0, 0);
  }

  @Says(promise = 56, words = "the same, too)")
  void p56_the_same_length_is_an_act_too() {
    CrankBranches x = walking(ROUND, 0, 0);
    is(x, 6, "reshape", 0, 0, 6);
    is(x, 1, "size", 4);
    no(x, NONE, 5, "walk", 0);
    is(x, 1, "undo");
    is(x, 6, "bar", 0, 0);
  }

  @Says(promise = 56, term = "IV", words = ORDER)
  void p56_1_is_met_ahead_of_2() {
    no(desk(FULL), NONE, 1, "reshape", 4, 0, 19);
    no(desk(FULL), NONE, 1, "reshape", 0, -1, 0);
  }

  @Says(promise = 56, term = "III", words = "ACTS: a length (THE WALK is none then)")
  void p56_the_walk_is_none_then_of_any_linkage() {
    CrankBranches x = desk(FULL);
    is(x, 1, "begin", 0, 0, 0);
    no(x, NONE, 2, "reshape", 0, 0, 19);
    no(x, NONE, 1, "reshape", 4, 0, 1);
    at(x, 0, 0, 0, 0);
    is(x, 4, "reshape", 3, 0, 5);
    no(x, NONE, 5, "walk", 0);
    no(x, NONE, 5, "steps", 1);
    no(x, NONE, 5, "away", 0, 0);
  }

  // ---- promise 57

  @Says(promise = 57, words = "false: 1 (there is nothing)")
  void p57_there_is_nothing_to_undo() {
    no(new CrankBranches(), 0, 1, "undo");
    CrankBranches x = walking(ROUND, 3, 1);
    no(x, 0, 1, "undo");
    at(x, 0, 3, 1, 0);
    is(x, 2, "reshape", 0, 1, 3);
    is(x, 1, "undo");
    no(x, 0, 1, "undo");
    is(x, 2, "bar", 0, 1);
  }

  @Says(promise = 57, term = "III", words = "(10 are kept")
  void p57_ten_acts_are_kept() {
    CrankBranches x = desk(ROUND);
    for (int length = 1; length <= 12; length++) {
      answer(x, "reshape", 0, 2, length);
      is(x, Math.min(length, 10), "size", 4);
    }
    for (int length = 11; length >= 2; length--) {
      is(x, 1, "undo");
      is(x, length, "bar", 0, 2);
    }
    no(x, 0, 1, "undo");
    is(x, 2, "bar", 0, 2);
    is(x, 0, "size", 4);
  }

  @Says(promise = 57, term = "III", words = "UNDO: the latest ACT not undone yet")
  void p57_the_latest_not_undone_yet() {
    CrankBranches x = desk(FULL);
    is(x, 6, "reshape", 0, 0, 7);
    is(x, 5, "reshape", 3, 3, 9);
    is(x, 1, "undo");
    is(x, 5, "bar", 3, 3);
    is(x, 2, "reshape", 0, 1, 4);
    is(x, 1, "undo");
    is(x, 2, "bar", 0, 1);
    is(x, 7, "bar", 0, 0);
    is(x, 1, "undo");
    is(x, 6, "bar", 0, 0);
    no(x, 0, 1, "undo");
  }

  @Says(promise = 57, term = "III", words = "THE WALK is none then, too)")
  void p57_the_walk_is_none_then_too() {
    CrankBranches x = desk(FULL);
    is(x, 6, "reshape", 0, 0, 7);
    is(x, 1, "begin", 3, 25, 0);
    is(x, 1, "undo");
    no(x, NONE, 5, "walk", 0);
  }
}
