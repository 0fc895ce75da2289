/** Promises 6 to 8, and what the Terms say of THE TURN: one test for each sentence with a boundary. */
final class TurnSentences extends Sentences {
  private static int divisor(int a, int b) {
    return b == 0 ? Math.abs(a) : divisor(b, a % b);
  }

  // ---- promise 6

  @Says(promise = 6, term = "IV", words = "the turn (with a DESK or without)")
  void p06_the_turn_is_there_with_a_desk_or_without() {
    CrankBranches x = new CrankBranches();
    is(x, 40, "angles");
    is(x, -5, "angle", 0, 0);
    is(x, 29, "which", 1, 1);
    Check.desk(x, ROUND);
    is(x, 40, "angles");
    is(x, -5, "angle", 0, 0);
    is(x, 29, "which", 1, 1);
  }

  @Says(promise = 6, words = "How many ANGLES THE TURN has")
  void p06_no_angle_is_behind_the_last_one() {
    CrankBranches x = new CrankBranches();
    int angles = x.angles();
    is(x, 1, "angle", angles - 1, 0);
    no(x, NOTHING, 1, "angle", angles, 0);
  }

  // ---- promise 7

  @Says(promise = 7, term = "II", words = "all ANGLES with p -5 .. 5, q 0 .. 5")
  void p07_p_is_from_5_back_to_5_and_q_from_0_to_5() {
    CrankBranches x = new CrankBranches();
    int[] most = {0, 0, 0, 0};
    for (int k = 0; k < 40; k++) {
      for (int what = 0; what < 2; what++) {
        most[what] = Math.max(most[what], x.angle(k, what));
        most[2 + what] = Math.min(most[2 + what], x.angle(k, what));
      }
    }
    int[] want = {5, 5, -5, 0};
    for (int i = 0; i < 4; i++) {
      due("the greatest p, q, the least p, q: " + i, most[i], want[i]);
    }
  }

  @Says(promise = 7, term = "II", words = "in lowest terms")
  void p07_all_are_in_lowest_terms() {
    CrankBranches x = new CrankBranches();
    for (int k = 0; k < 40; k++) {
      due("the divisor of p and q of " + k, divisor(x.angle(k, 0), x.angle(k, 1)), 1);
    }
  }

  @Says(promise = 7, term = "II", words = "(q 0: p 1 alone)")
  void p07_of_q_0_there_is_p_1_alone() {
    CrankBranches x = new CrankBranches();
    for (int k = 0; k < 40; k++) {
      due("q of " + k + " is 0", x.angle(k, 1) == 0 ? 1 : 0, k == 39 ? 1 : 0);
    }
    is(x, 1, "angle", 39, 0);
  }

  @Says(promise = 7, term = "II", words = "numbered from 0 by p by q, the least first, that of q 0 last")
  void p07_the_least_is_the_first_and_that_of_q_0_the_last() {
    CrankBranches x = new CrankBranches();
    is(x, -5, "angle", 0, 0);
    is(x, 1, "angle", 0, 1);
    for (int k = 0; k < 38; k++) {
      int less = x.angle(k, 0) * x.angle(k + 1, 1);
      int more = x.angle(k + 1, 0) * x.angle(k, 1);
      due("the one behind " + k + " is more", less < more ? 1 : 0, 1);
    }
    is(x, 5, "angle", 38, 0);
    is(x, 1, "angle", 38, 1);
    is(x, 0, "angle", 39, 1);
  }

  @Says(promise = 7, words = "NOTHING: 1")
  void p07_no_such_angle_and_no_such_what() {
    onlyWithin(new CrankBranches(), NOTHING, "angle", 40, 2);
  }

  // ---- promise 8

  @Says(promise = 8, words = "(p -5 .. 5, q -5 .. 5")
  void p08_p_and_q_at_their_bounds() {
    CrankBranches x = new CrankBranches();
    is(x, 29, "which", 5, 5);
    is(x, 29, "which", -5, -5);
    is(x, 9, "which", -5, 5);
    is(x, 9, "which", 5, -5);
    is(x, 38, "which", 5, 1);
    is(x, 0, "which", -5, 1);
    is(x, 20, "which", 1, 5);
    is(x, 18, "which", 1, -5);
  }

  @Says(promise = 8, words = "in lowest terms or not")
  void p08_every_p_and_q_of_one_tangent() {
    CrankBranches x = new CrankBranches();
    for (int p = -5; p <= 5; p++) {
      for (int q = -5; q <= 5; q++) {
        if (p != 0 || q != 0) {
          int by = q < 0 || q == 0 && p < 0 ? -divisor(p, q) : divisor(p, q);
          int k = x.which(p, q);
          due("p of which(" + p + ", " + q + ")", x.angle(k, 0), p / Math.abs(by) * (by < 0 ? -1 : 1));
          due("q of which(" + p + ", " + q + ")", x.angle(k, 1), q / Math.abs(by) * (by < 0 ? -1 : 1));
        }
      }
    }
  }

  @Says(promise = 8, term = "II", words = "(q 0: half a turn)")
  void p08_q_0_is_half_a_turn_by_any_p() {
    CrankBranches x = new CrankBranches();
    for (int p = -5; p <= 5; p++) {
      if (p != 0) {
        is(x, 39, "which", p, 0);
      }
    }
  }

  @Says(promise = 8, words = "NONE: 2")
  void p08_p_or_q_too_small_or_too_large() {
    CrankBranches x = new CrankBranches();
    for (int stray : new int[] {Integer.MIN_VALUE, -6, 6, Integer.MAX_VALUE}) {
      no(x, NONE, 2, "which", stray, 1);
      no(x, NONE, 2, "which", 1, stray);
      no(x, NONE, 2, "which", stray, 0);
      no(x, NONE, 2, "which", 0, stray);
    }
  }

  @Says(promise = 8, words = "not both 0")
  void p08_not_both_0() {
    CrankBranches x = new CrankBranches();
    no(x, NONE, 2, "which", 0, 0);
    is(x, 19, "which", 0, 1);
    is(x, 19, "which", 0, -5);
  }
}
