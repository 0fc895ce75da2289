/** Promises 31 to 45, and what the Terms say of CURVES: one test for each sentence with a boundary. */
final class CurveSentences extends Sentences {
  private static final String ORDER = "Refusals of a call are met in the order in which they are told";
  /** In BRANCH 0 (49, 5) at 17, (41, 5) at 18, (98, 5) at 20, (90, 5) at 21. */
  private static final String ON_A_LINE = "bars ground 7 crank 7 rod 2 arm 2;tracer 20 0";
  /** In BRANCH 0 (30, -14) at 17 and at 18, (43, 15) at 20, (42, 16) at 21. */
  private static final String TWICE = "bars ground 4 crank 4 rod 1 arm 1;tracer 5 5";
  /** In BRANCH 0 (35, -9) at 17, (32, -7) at 18, (44, 8) at 20, (40, 10) at 21, that exactly. */
  private static final String CUT = "bars ground 4 crank 4 rod 1 arm 1;tracer 10 0";
  /** In BRANCH 0 (130, 0) at 18 and at 20, exactly. */
  private static final String ONE_PLACE = "bars ground 13 crank 13 rod 5 arm 1;tracer 10 -2";
  /** The JOINT stays at (0, 0) from 0 to 19, goes out as far as (60, 0) at 24 and is back at 39. */
  private static final String KITE = "bars ground 3 crank 5 rod 5 arm 3;tracer 10 0";

  /** LINKAGE 1 with a point alone, (20, 0) at 19, behind one with 40 that cross: nothing of these may be left. */
  private CrankBranches onePoint(String name, Object... values) {
    CrankBranches x = desk("bars ground 7 crank 2 rod 5 arm 5;" + FLAT + ";" + APART + ";tracer 10 0;point 20 0");
    answer(x, name, values);
    return x;
  }

  // ---- promises 31 and 32

  @Says(promise = 31, words = "NOTHING: 1")
  void p31_no_such_tracer_and_no_such_what() {
    onlyWithin(desk(FULL), NOTHING, "tracer", 4, 2);
    no(new CrankBranches(), NOTHING, 1, "tracer", 0, 0);
    no(desk(ROUND), NOTHING, 1, "tracer", 0, 0);
  }

  @Says(promise = 32, words = "NOTHING: 1")
  void p32_no_such_point_and_no_such_what() {
    onlyWithin(desk(FULL), NOTHING, "point", 8, 2);
    no(new CrankBranches(), NOTHING, 1, "point", 0, 0);
    no(desk(ROUND), NOTHING, 1, "point", 0, 0);
  }

  // ---- promise 33

  @Says(promise = 33, words = "NOTHING: 1")
  void p33_no_such_linkage_tracer_angle_branch_or_what() {
    onlyWithin(desk(FULL), NOTHING, "traced", 4, 4, 40, 2, 2);
    no(new CrankBranches(), NOTHING, 1, "traced", 0, 0, 0, 0, 0);
  }

  @Says(promise = 33, words = "NOTHING: 1; 5")
  void p33_not_lawful() {
    CrankBranches x = desk(FULL);
    no(x, NOTHING, 5, "traced", 2, 0, 19, 0, 0);
    no(x, NOTHING, 5, "traced", 1, 1, 0, 1, 1);
    is(x, -30, "traced", 2, 1, 39, 1, 0);
  }

  @Says(promise = 33, term = "IV", words = ORDER)
  void p33_1_is_met_ahead_of_5() {
    CrankBranches x = desk(FULL);
    no(x, NOTHING, 1, "traced", 2, 4, 19, 0, 0);
    no(x, NOTHING, 1, "traced", 2, 0, 19, 0, 2);
  }

  @Says(promise = 33, term = "II", words = "and n (JOINT's x less PIN's); in TENTHS")
  void p33_tenths_below_0_go_down_and_whole_ones_stay() {
    CrankBranches x = desk(TOUCH);
    // 50.7 and 39.1 below 0; 39 and 41 below 0 with nothing cut off.
    is(x, 50, "traced", 0, 0, 15, 1, 0);
    is(x, -40, "traced", 0, 0, 15, 1, 1);
    is(x, 39, "traced", 0, 0, 14, 1, 0);
    is(x, -41, "traced", 0, 0, 14, 1, 1);
    CrankBranches most = desk("bars ground 18 crank 18 rod 18 arm 18;tracer 20 20;tracer -20 -20");
    // At a quarter turn the rod goes 18 to the right (BRANCH 0) or 18 down.
    is(most, 360, "traced", 0, 0, 29, 0, 0);
    is(most, 180 + 360, "traced", 0, 0, 29, 0, 1);
    is(most, 360, "traced", 0, 0, 29, 1, 0);
    is(most, 180 - 360, "traced", 0, 0, 29, 1, 1);
    is(most, -360, "traced", 0, 1, 29, 0, 0);
    is(most, 180 - 360, "traced", 0, 1, 29, 0, 1);
  }

  @Says(promise = 33, term = "IV", words = "curves: 1 (no such LINKAGE, TRACER, BRANCH, ANGLE, POINT, what)")
  void p33_each_that_there_is_not_is_enough() {
    CrankBranches x = desk(FULL);
    is(x, 60, "traced", 2, 2, 29, 0, 1);
    no(x, NOTHING, 1, "traced", 4, 2, 29, 0, 1);
    no(x, NOTHING, 1, "traced", 2, 4, 29, 0, 1);
    no(x, NOTHING, 1, "traced", 2, 2, 40, 0, 1);
    no(x, NOTHING, 1, "traced", 2, 2, 29, 2, 1);
    no(x, NOTHING, 1, "traced", 2, 2, 29, 0, 2);
    no(x, NOTHING, 1, "traced", 4, 4, 40, 2, 2);
  }

  // ---- promise 34

  @Says(promise = 34, words = "NOTHING: 1")
  void p34_no_such_linkage_tracer_branch_or_what() {
    onlyWithin(desk(FULL), NOTHING, "box", 4, 4, 2, 4);
    no(new CrankBranches(), NOTHING, 1, "box", 0, 0, 0, 0);
  }

  @Says(promise = 34, words = "5 (nothing is LAWFUL)")
  void p34_nothing_is_lawful() {
    CrankBranches x = desk(FULL);
    for (int what = 0; what < 4; what++) {
      no(x, NOTHING, 5, "box", 1, 0, 0, what);
    }
    // It can be BUILT, but no ANGLE of THE TURN is LAWFUL.
    no(desk("bars ground 18 crank 17 rod 3 arm 1;tracer 1 1"), NOTHING, 5, "box", 0, 0, 0, 0);
  }

  @Says(promise = 34, term = "IV", words = ORDER)
  void p34_1_is_met_ahead_of_5() {
    CrankBranches x = desk(FULL);
    no(x, NOTHING, 1, "box", 1, 0, 0, 4);
    no(x, NOTHING, 1, "box", 1, 4, 0, 0);
  }

  @Says(promise = 34, words = "Of a CURVE 0 the least x, 1 the greatest, 2 the least y, 3 the greatest")
  void p34_of_one_point_the_least_is_the_greatest() {
    are(onePoint("box", 0, 0, 0, 0), new long[] {20, 20, 0, 0}, "box", 1, 0, 0);
    are(desk(TOUCH), new long[] {39, 50, -41, 41}, "box", 0, 0, 1);
  }

  // ---- promise 35

  @Says(promise = 35, words = "Long.MIN_VALUE: 1")
  void p35_no_such_linkage_tracer_or_branch() {
    onlyWithin(desk(FULL), LOW, "area", 4, 4, 2);
    no(new CrankBranches(), LOW, 1, "area", 0, 0, 0);
  }

  @Says(promise = 35, term = "III", words = "EDGES from each to the next, from the last to the first")
  void p35_the_edge_from_the_last_to_the_first_counts() {
    is(desk(TOUCH), 490 + 3260 + 273 - 3198, "area", 0, 0, 1);
    // There and back.
    is(desk("bars ground 5 crank 5 rod 1 arm 1;tracer 10 0"), 0, "area", 0, 0, 0);
  }

  @Says(promise = 35, term = "III", words = "(with fewer than 2: none)")
  void p35_with_fewer_than_2_points_there_are_no_edges() {
    CrankBranches x = onePoint("area", 0, 0, 0);
    is(x, 0, "area", 1, 0, 0);
    is(x, 0, "area", 2, 0, 0);
  }

  @Says(promise = 35, words = "(twice its area, with a sign)")
  void p35_turning_right_it_is_below_0() {
    // (45, -24) at 18, (50, -3) at 19, (59, 13) at 20.
    CrankBranches x = desk("bars ground 4 crank 6 rod 1 arm 2;tracer 0 10");
    is(x, 1065 + 827 - 2001, "area", 0, 0, 1);
    is(x, 109, "hullArea", 0, 0, 1);
  }

  // ---- promise 36

  @Says(promise = 36, words = "NONE: 1")
  void p36_no_such_linkage_tracer_or_branch() {
    onlyWithin(desk(FULL), NONE, "crossings", 4, 4, 2);
    no(new CrankBranches(), NONE, 1, "crossings", 0, 0, 0);
  }

  @Says(promise = 36, term = "III", words = "that cut one another at an inner point of both")
  void p36_an_end_of_an_edge_on_another_is_no_crossing() {
    // The first or the last point of the second EDGE or of the fourth, from either side.
    is(desk(TOUCH), 0, "crossings", 0, 0, 1);
    is(desk("bars ground 12 crank 12 rod 2 arm 8;tracer 20 0"), 0, "crossings", 0, 0, 0);
    is(desk("bars ground 12 crank 12 rod 2 arm 8;tracer 20 0"), 0, "crossings", 0, 0, 1);
    is(desk("bars ground 6 crank 7 rod 3 arm 1;tracer 15 0"), 0, "crossings", 0, 0, 1);
  }

  @Says(promise = 36, term = "III", words = "that cut one another at an inner point")
  void p36_edges_that_cut_one_another_close_to_an_end_do_cross() {
    // Three points in a row of which one is on the other side make a figure whose area, twice, is 1.
    is(desk("bars ground 11 crank 6 rod 3 arm 4;tracer 0 10"), 1, "crossings", 0, 0, 0);
    is(desk("bars ground 9 crank 10 rod 4 arm 1;tracer 5 0"), 1, "crossings", 0, 0, 1);
    is(desk("bars ground 4 crank 4 rod 1 arm 1;tracer 0 10"), 1, "crossings", 0, 0, 1);
    is(desk("bars ground 12 crank 4 rod 4 arm 5;tracer 10 0"), 1, "crossings", 0, 0, 1);
  }

  @Says(promise = 36, term = "III", words = "not lying along one another")
  void p36_edges_that_lie_along_one_another_are_no_crossing() {
    is(desk(ON_A_LINE), 0, "crossings", 0, 0, 0);
  }

  @Says(promise = 36, term = "III", words = "at an inner point of both")
  void p36_ends_in_one_place_are_no_crossing() {
    is(desk(TWICE), 0, "crossings", 0, 0, 0);
    is(desk(FULL), 0, "crossings", 2, 0, 1);
  }

  @Says(promise = 36, term = "III", words = "CROSSING: two EDGES, with no point of the order in common")
  void p36_the_edge_from_the_last_to_the_first_may_cross_too() {
    is(desk(CUT), 1, "crossings", 0, 0, 0);
    is(desk(ONE_PLACE), 0, "crossings", 0, 0, 0);
    is(desk("bars ground 5 crank 5 rod 1 arm 1;tracer 10 0"), 0, "crossings", 0, 0, 0);
  }

  @Says(promise = 36, words = "How many CROSSINGS")
  void p36_the_first_edge_may_cross_too() {
    // (47, -1) at 17, (66, 2) at 18, (54, -6) at 20, (70, 6) at 21.
    is(desk("bars ground 6 crank 6 rod 1 arm 2;tracer 20 20"), 1, "crossings", 0, 0, 1);
  }

  @Says(promise = 36, term = "III", words = "(with fewer than 2: none)")
  void p36_with_fewer_than_2_points_nothing_crosses() {
    CrankBranches x = onePoint("crossings", 0, 0, 0);
    is(x, 0, "crossings", 1, 0, 0);
    is(x, 0, "crossings", 2, 0, 0);
  }

  // ---- promise 37

  @Says(promise = 37, words = "NONE: 1")
  void p37_no_such_linkage_tracer_or_branch() {
    onlyWithin(desk(FULL), NONE, "hull", 4, 4, 2);
    no(new CrankBranches(), NONE, 1, "hull", 0, 0, 0);
  }

  @Says(promise = 37, term = "III", words = "none of them on a line between two others")
  void p37_a_point_on_a_line_between_two_others_is_no_corner() {
    is(desk(TOUCH), 3, "hull", 0, 0, 1);
  }

  @Says(promise = 37, term = "III", words = "the corners of the least figure without dents in which all its points are")
  void p37_a_point_just_beside_a_line_is_a_corner() {
    // (79, -22) at 18, (81, -7) at 19, (84, 15) at 20.
    CrankBranches x = desk("bars ground 6 crank 13 rod 7 arm 1;tracer 7 0");
    is(x, 3, "hull", 0, 0, 0);
    are(x, new long[] {18, 20, 19}, "corner", 0, 0, 0);
    is(x, 1, "hullArea", 0, 0, 0);
  }

  @Says(promise = 37, term = "III", words = "all in one place: one corner")
  void p37_all_in_one_place_are_one_corner() {
    CrankBranches x = desk(ONE_PLACE);
    is(x, 2, "lawfuls", 0);
    is(x, 1, "hull", 0, 0, 0);
    is(onePoint("hull", 0, 0, 0), 1, "hull", 1, 0, 0);
  }

  @Says(promise = 37, term = "III", words = "all on a line: its two ends")
  void p37_all_on_a_line_are_two_corners() {
    CrankBranches x = desk(ON_A_LINE);
    is(x, 4, "lawfuls", 0);
    is(x, 2, "hull", 0, 0, 0);
    are(x, new long[] {18, 20}, "corner", 0, 0, 0);
  }

  @Says(promise = 37, words = "How many corners HULL has")
  void p37_where_nothing_is_lawful_there_is_none() {
    is(onePoint("hull", 0, 0, 0), 0, "hull", 2, 0, 0);
  }

  // ---- promise 38

  @Says(promise = 38, words = "NONE: 1")
  void p38_no_such_linkage_tracer_or_branch() {
    onlyWithin(desk(FULL), NONE, "corner", 4, 4, 2);
    no(new CrankBranches(), NONE, 1, "corner", 0, 0, 0, 0);
  }

  @Says(promise = 38, words = "1 (j, too)")
  void p38_no_such_corner() {
    CrankBranches x = desk(TOUCH);
    is(x, 24, "corner", 0, 0, 1, 2);
    for (int j : new int[] {Integer.MIN_VALUE, -1, 3, 4, Integer.MAX_VALUE}) {
      no(x, NONE, 1, "corner", 0, 0, 1, j);
    }
    CrankBranches y = onePoint("corner", 0, 0, 0, 0);
    no(y, NONE, 1, "corner", 1, 0, 0, 1);
    no(y, NONE, 1, "corner", 2, 0, 0, 0);
    no(desk(ONE_PLACE), NONE, 1, "corner", 0, 0, 0, 1);
    no(desk(ON_A_LINE), NONE, 1, "corner", 0, 0, 0, 2);
  }

  @Says(promise = 38, term = "III", words = "(of points in one place the first in order")
  void p38_of_points_in_one_place_the_first_in_order() {
    are(desk(TWICE), new long[] {17, 20, 21}, "corner", 0, 0, 0);
    is(desk(ONE_PLACE), 18, "corner", 0, 0, 0, 0);
    is(desk(FULL), 20, "corner", 2, 0, 1, 0);
  }

  @Says(promise = 38, term = "III", words = "from that with the least x, of like ones the least y")
  void p38_from_the_least_x_and_of_like_ones_the_least_y() {
    is(desk(TOUCH), 14, "corner", 0, 0, 1, 0);
    is(desk(ON_A_LINE), 18, "corner", 0, 0, 0, 0);
    is(desk(CUT), 18, "corner", 0, 0, 0, 0);
  }

  @Says(promise = 38, term = "III", words = "on, turning left")
  void p38_turning_left() {
    are(desk(TOUCH), new long[] {14, 15, 24}, "corner", 0, 0, 1);
    are(desk(CUT), new long[] {18, 17, 20, 21}, "corner", 0, 0, 0);
  }

  // ---- promise 39

  @Says(promise = 39, words = "-1: 1")
  void p39_no_such_linkage_tracer_or_branch() {
    onlyWithin(desk(FULL), -1, "hullArea", 4, 4, 2);
    no(new CrankBranches(), -1, 1, "hullArea", 0, 0, 0);
  }

  @Says(promise = 39, words = "(0 by fewer than three corners)")
  void p39_0_by_fewer_than_three_corners() {
    is(desk(TOUCH), 490 + 3610 - 3198, "hullArea", 0, 0, 1);
    is(desk(ON_A_LINE), 0, "hullArea", 0, 0, 0);
    is(desk(ONE_PLACE), 0, "hullArea", 0, 0, 0);
    CrankBranches x = onePoint("hullArea", 0, 0, 0);
    is(x, 0, "hullArea", 1, 0, 0);
    is(x, 0, "hullArea", 2, 0, 0);
  }

  // ---- promises 40 and 41

  @Says(promise = 40, words = "NONE: 1")
  void p40_no_such_linkage_tracer_or_branch() {
    onlyWithin(desk(FULL), NONE, "straight", 4, 4, 2);
    no(new CrankBranches(), NONE, 1, "straight", 0, 0, 0, 0);
  }

  @Says(promise = 40, words = "NONE: 1; 2")
  void p40_h_too_small_or_too_large() {
    CrankBranches x = desk(FULL);
    for (int h : new int[] {Integer.MIN_VALUE, -1, 101, Integer.MAX_VALUE}) {
      no(x, NONE, 2, "straight", 0, 0, 0, h);
      no(x, NONE, 2, "straight", 1, 0, 0, h);
    }
  }

  @Says(promise = 40, words = "STRAIGHT within h (0 .. 100)")
  void p40_h_of_0_and_of_100() {
    CrankBranches x = desk(FULL);
    is(x, 40, "straight", 0, 1, 0, 100);
    is(desk(TOUCH), 4, "straight", 0, 0, 1, 100);
    is(desk(TOUCH), 2, "straight", 0, 0, 1, 0);
    is(desk(ON_A_LINE), 4, "straight", 0, 0, 0, 0);
  }

  @Says(promise = 40, term = "IV", words = ORDER)
  void p40_1_is_met_ahead_of_2() {
    CrankBranches x = desk(FULL);
    no(x, NONE, 1, "straight", 4, 0, 0, 101);
    no(x, NONE, 1, "straight", 0, 4, 0, -1);
    no(x, NONE, 1, "straight", 0, 0, 2, 101);
  }

  @Says(promise = 40, term = "III",
      words = "of which none is farther than h from the line through the first and the last of them")
  void p40_a_point_just_h_from_the_line_is_within() {
    // (50, -40) is 11 from the line from (39, -41) to (39, 41).
    CrankBranches x = desk(TOUCH);
    is(x, 4, "straight", 0, 0, 1, 11);
    is(x, 3, "straight", 0, 0, 1, 10);
  }

  @Says(promise = 40, term = "III", words = "in its order (not around)")
  void p40_not_around() {
    // The third, the last and the first are on a line.
    CrankBranches x = desk(TOUCH);
    is(x, 2, "straight", 0, 0, 1, 0);
    is(x, 14, "straightFrom", 0, 0, 1, 0);
  }

  @Says(promise = 40, term = "III", words = "(if these are in one place: than h from that)")
  void p40_first_and_last_in_one_place() {
    CrankBranches x = desk(KITE);
    is(x, 40, "straight", 0, 0, 0, 60);
    is(x, 38, "straight", 0, 0, 0, 59);
    is(desk(ONE_PLACE), 2, "straight", 0, 0, 0, 0);
  }

  @Says(promise = 40, words = "how many points")
  void p40_of_one_point_and_of_none() {
    CrankBranches x = onePoint("straight", 0, 0, 0, 100);
    is(x, 1, "straight", 1, 0, 0, 0);
    is(x, 0, "straight", 2, 0, 0, 0);
  }

  @Says(promise = 41, words = "NONE: 1")
  void p41_no_such_linkage_tracer_or_branch() {
    onlyWithin(desk(FULL), NONE, "straightFrom", 4, 4, 2);
    no(new CrankBranches(), NONE, 1, "straightFrom", 0, 0, 0, 0);
  }

  @Says(promise = 41, words = "NONE: 1; 2")
  void p41_h_too_small_or_too_large() {
    CrankBranches x = desk(FULL);
    for (int h : new int[] {Integer.MIN_VALUE, -1, 101, Integer.MAX_VALUE}) {
      no(x, NONE, 2, "straightFrom", 0, 0, 0, h);
    }
    is(x, 0, "straightFrom", 0, 1, 0, 100);
  }

  @Says(promise = 41, term = "IV", words = ORDER)
  void p41_1_is_met_ahead_of_2() {
    CrankBranches x = desk(FULL);
    no(x, NONE, 1, "straightFrom", 4, 0, 0, 101);
    no(x, NONE, 1, "straightFrom", 0, 0, -1, -1);
  }

  @Says(promise = 41, words = "-2 without any")
  void p41_without_any() {
    CrankBranches x = onePoint("straightFrom", 0, 0, 0, 100);
    is(x, 19, "straightFrom", 1, 0, 0, 0);
    is(x, -2, "straightFrom", 2, 0, 0, 0);
  }

  @Says(promise = 41, term = "III", words = "than h from that); of several the first")
  void p41_of_several_the_first() {
    is(desk(TOUCH), 14, "straightFrom", 0, 0, 1, 0);
    is(desk(TOUCH), 15, "straightFrom", 0, 0, 1, 10);
    is(desk(KITE), 0, "straightFrom", 0, 0, 0, 59);
  }

  // ---- promise 42

  @Says(promise = 42, words = "NONE: 1")
  void p42_no_such_linkage_tracer_branch_or_point() {
    onlyWithin(desk(FULL), NONE, "near", 4, 4, 2, 8);
    no(new CrankBranches(), NONE, 1, "near", 0, 0, 0, 0, 0);
    no(desk(TOUCH), NONE, 1, "near", 0, 0, 1, 0, 0);
  }

  @Says(promise = 42, words = "1 (place, too)")
  void p42_no_such_place() {
    CrankBranches x = desk(FULL);
    onlyWithin(x, NONE, "near", 4, 4, 2, 8, 40);
    no(x, NONE, 1, "near", 1, 0, 0, 0, 0);
    no(x, NONE, 1, "near", 2, 0, 0, 0, 39);
    no(x, NONE, 1, "near", 3, 0, 0, 0, 10);
    CrankBranches y = onePoint("near", 0, 0, 0, 0, 39);
    is(y, 19, "near", 1, 0, 0, 0, 0);
    no(y, NONE, 1, "near", 1, 0, 0, 0, 1);
  }

  @Says(promise = 42, words = "at a place (from 0) by MISS of a POINT, the least first, of like ones by number")
  void p42_of_like_ones_by_number() {
    // From (39, 0): 41 41 at 14, 11 11 + 40 40 at 15, 34 34 at 23, 41 41 at 24.
    are(desk(TOUCH + ";point 39 0"), new long[] {23, 14, 24, 15}, "near", 0, 0, 1, 0);
    are(desk(ONE_PLACE + ";point -999 999"), new long[] {18, 20}, "near", 0, 0, 0, 0);
    // From (40, 10): 5 5 + 19 19 at 17, 8 8 + 17 17 at 18, 4 4 + 2 2 at 20, nothing at 21.
    are(desk(CUT + ";point 40 10"), new long[] {21, 20, 18, 17}, "near", 0, 0, 0, 0);
  }

  // ---- promise 43

  @Says(promise = 43, words = "NONE: 1")
  void p43_no_such_linkage_tracer_branch_or_point() {
    onlyWithin(desk(FULL), NONE, "miss", 4, 4, 2, 8);
    no(new CrankBranches(), NONE, 1, "miss", 0, 0, 0, 0);
  }

  @Says(promise = 43, words = "5 (nothing is LAWFUL)")
  void p43_nothing_is_lawful() {
    CrankBranches x = desk(FULL);
    no(x, NONE, 5, "miss", 1, 0, 0, 0);
    no(x, NONE, 5, "miss", 1, 3, 1, 7);
  }

  @Says(promise = 43, term = "IV", words = ORDER)
  void p43_1_is_met_ahead_of_5() {
    CrankBranches x = desk(FULL);
    no(x, NONE, 1, "miss", 1, 0, 0, 8);
    no(x, NONE, 1, "miss", 1, 4, 0, 0);
  }

  @Says(promise = 43, term = "IV", words = "curves: 1 (no such LINKAGE, TRACER, BRANCH, ANGLE, POINT, what)")
  void p43_each_that_there_is_not_is_enough() {
    CrankBranches x = desk(FULL);
    is(x, 1300, "miss", 2, 0, 1, 0);
    no(x, NONE, 1, "miss", -1, 0, 1, 0);
    no(x, NONE, 1, "miss", 2, -1, 1, 0);
    no(x, NONE, 1, "miss", 2, 0, -1, 0);
    no(x, NONE, 1, "miss", 2, 0, 1, -1);
    no(x, NONE, 1, "miss", -1, -1, -1, -1);
  }

  @Says(promise = 43, words = "The least MISS")
  void p43_a_miss_of_nothing_and_of_the_farthest_point() {
    CrankBranches x = desk(ONE_PLACE + ";point 130 0;point -999 999;point 999 -999");
    is(x, 0, "miss", 0, 0, 0, 0);
    is(x, 1129 * 1129 + 999 * 999, "miss", 0, 0, 0, 1);
    is(x, 869 * 869 + 999 * 999, "miss", 0, 0, 0, 2);
  }

  @Says(promise = 43, term = "III", words = "MISS of a POINT at one of them")
  void p43_at_the_first_of_a_curve_or_at_the_last() {
    CrankBranches x = desk(CUT + ";point 35 -9;point 32 -7;point 44 8;point 40 10;point 40 12");
    for (int point = 0; point < 4; point++) {
      is(x, 0, "miss", 0, 0, 0, point);
    }
    is(x, 4, "miss", 0, 0, 0, 4);
  }

  // ---- promise 44

  @Says(promise = 44, words = "NONE: 1")
  void p44_no_such_linkage_tracer_branch_or_point() {
    onlyWithin(desk(FULL), NONE, "met", 4, 4, 2, 8);
    no(new CrankBranches(), NONE, 1, "met", 0, 0, 0, 0);
  }

  @Says(promise = 44, words = "The first ANGLE of a CURVE at which a POINT is MET")
  void p44_of_several_the_first() {
    is(desk(ONE_PLACE + ";point 130 0"), 18, "met", 0, 0, 0, 0);
    is(desk(FULL), 20, "met", 2, 0, 1, 2);
    is(desk("bars ground 13 crank 13 rod 18 arm 18;tracer 0 0;point -120 -50"), 0, "met", 0, 0, 0, 0);
    is(desk(ROUND + ";tracer 0 0;point -20 0"), 39, "met", 0, 0, 0, 0);
  }

  @Says(promise = 44, words = "; -2")
  void p44_met_nowhere_and_where_nothing_is_lawful() {
    CrankBranches x = desk(FULL);
    is(x, -2, "met", 0, 0, 0, 3);
    is(x, -2, "met", 1, 0, 0, 0);
    // The rhombus has no position at 19: the PIN is at (3, 0) there alone.
    is(desk(RHOMBUS + ";tracer 0 0;point 30 0"), -2, "met", 0, 0, 0, 0);
  }

  @Says(promise = 44, term = "III", words = "MET: where it is TRACED exactly there (no TENTHS cut off)")
  void p44_where_tenths_are_cut_off_it_is_not_met() {
    // (39.0, -41.0) at 14, but (39.7, 34.7) at 23; of (39.8, 41.4) at 24 nothing is whole.
    CrankBranches x = desk(TOUCH + ";point 39 -41;point 39 34;point 39 41");
    is(x, 14, "met", 0, 0, 1, 0);
    is(x, -2, "met", 0, 0, 1, 1);
    is(x, -2, "met", 0, 0, 1, 2);
    is(x, 0, "miss", 0, 0, 1, 1);
    // x is 4 and y the root of 21, about 4.58.
    CrankBranches y = desk(ROUND + ";tracer 10 0;point 40 45;point 40 46");
    is(y, -2, "met", 0, 0, 0, 0);
    is(y, -2, "met", 0, 0, 0, 1);
  }

  // ---- promise 45

  @Says(promise = 45, words = "NONE: 1")
  void p45_no_such_linkage_and_no_such_branch() {
    onlyWithin(desk(FULL), NONE, "best", 4, 2);
    no(new CrankBranches(), NONE, 1, "best", 0, 0);
  }

  @Says(promise = 45, words = "5 (no TRACERS")
  void p45_no_tracers() {
    CrankBranches x = desk(ROUND + ";point 1 1");
    no(x, NONE, 5, "best", 0, 0);
    no(x, NONE, 5, "best", 0, 1);
  }

  @Says(promise = 45, words = "no POINTS")
  void p45_no_points() {
    no(desk(ROUND + ";tracer 1 1"), NONE, 5, "best", 0, 0);
  }

  @Says(promise = 45, words = "nothing is LAWFUL)")
  void p45_nothing_is_lawful() {
    CrankBranches x = desk(FULL);
    no(x, NONE, 5, "best", 1, 0);
    no(x, NONE, 5, "best", 1, 1);
  }

  @Says(promise = 45, term = "IV", words = ORDER)
  void p45_1_is_met_ahead_of_5() {
    no(desk(FULL), NONE, 1, "best", 1, 2);
    no(desk(ROUND), NONE, 1, "best", 1, 0);
  }

  @Says(promise = 45, words = "The TRACER whose least MISSES of all POINTS, together, are fewest")
  void p45_one_tracer_and_one_point_and_all_points_together() {
    is(desk(ROUND + ";tracer 5 0;point 1 1"), 0, "best", 0, 0);
    // The PIN is 20 from (0, 0); the JOINT comes to (40, 45) and not below 30.
    String two = ROUND + ";tracer 0 0;tracer 10 0";
    is(desk(two + ";point 40 45"), 1, "best", 0, 0);
    is(desk(two + ";point 0 -20"), 0, "best", 0, 0);
    is(desk(two + ";point 40 45;point 0 -20"), 0, "best", 0, 0);
    is(desk(two + ";point 40 45;point 40 45;point 40 45;point 0 20;point 40 45"), 1, "best", 0, 0);
  }

  @Says(promise = 45, words = "of several the first")
  void p45_of_several_the_first() {
    is(desk(ROUND + ";tracer 5 0;tracer 0 0;tracer 0 0;point -20 0"), 1, "best", 0, 0);
    is(desk(ROUND + ";tracer 0 0;tracer 0 0;tracer 0 0;tracer 0 0;point -20 0"), 0, "best", 0, 1);
    is(desk(ROUND + ";tracer 5 0;tracer 5 0;tracer 5 0;tracer 0 0;point -20 0"), 3, "best", 0, 1);
  }
}
