/** Promises 1 to 5, and what the Terms say of a DESK's text: one test for each sentence with a boundary. */
final class DeskSentences extends Sentences {
  private static final String ONES = "bars ground 1 crank 1 rod 1 arm 1";

  /** A text that is a DESK. */
  private void fine(String text, int linkages) {
    CrankBranches x = new CrankBranches();
    Check.feed(x, text);
    is(x, linkages, "desk", text.length());
    is(x, 0, "fault");
    is(x, NONE, "where");
  }

  /** A text that is none: which FAULT, and at which place. */
  private void fault(String text, int fault, int place) {
    CrankBranches x = new CrankBranches();
    Check.feed(x, text);
    no(x, NONE, 4, "desk", text.length());
    due("fault() of '" + text + "'", x.fault(), fault);
    due("where() of '" + text + "'", x.where(), place);
    is(x, 0, "size", 0);
  }

  private static String times(int count, String line) {
    return (line + ";").repeat(count - 1) + line;
  }

  private static CrankBranches full() {
    CrankBranches x = new CrankBranches();
    Check.feed(x, ONES + " ".repeat(700 - ONES.length()));
    return x;
  }

  // ---- promise 1

  @Says(promise = 1, words = "No DESK")
  void p01_a_new_object_has_no_desk() {
    CrankBranches x = new CrankBranches();
    for (int what = 0; what < 6; what++) {
      is(x, 0, "size", what);
    }
    no(x, NONE, 1, "bar", 0, 0);
    no(x, NOTHING, 1, "sums", 0);
    no(x, NOTHING, 1, "tracer", 0, 0);
    no(x, NOTHING, 1, "point", 0, 0);
    no(x, NOTHING, 1, "pair", 0, 0);
    no(x, NONE, 1, "fit", 0);
  }

  @Says(promise = 1, term = "III", words = "of a LINKAGE; at first there is none")
  void p01_a_new_object_has_no_walk() {
    CrankBranches x = new CrankBranches();
    for (int what = 0; what < 4; what++) {
      no(x, NONE, 5, "walk", what);
    }
  }

  // ---- promise 2

  @Says(promise = 2, term = "I", words = "THE TAPE has 700 bytes")
  void p02_the_tape_takes_700_bytes() {
    CrankBranches x = new CrankBranches();
    for (int bytes = 20; bytes <= 700; bytes += 20) {
      is(x, bytes, "feed", 0, -1, 1, Integer.MIN_VALUE, Integer.MAX_VALUE);
    }
    is(x, 700, "size", 5);
  }

  @Says(promise = 2, words = "if there would be more than 700")
  void p02_more_than_700_are_NONE() {
    CrankBranches x = full();
    is(x, NONE, "feed", 0, 0, 0, 0, 0);
    is(x, NONE, "feed", 1, 2, 3, 4, 5);
    is(x, 700, "size", 5);
  }

  @Says(promise = 2, words = "NONE, and none comes")
  void p02_none_comes_to_a_full_tape() {
    CrankBranches x = full();
    is(x, NONE, "feed", -1, -1, -1, -1, -1);
    is(x, 1, "desk", 700);
  }

  @Says(promise = 2, words = "of each number the highest first")
  void p02_bytes_above_127_come_as_they_are() {
    for (int i = 0; i < ONES.length(); i++) {
      char high = (char) (ONES.charAt(i) | 128);
      CrankBranches x = new CrankBranches();
      Check.feed(x, ONES.substring(0, i) + high + ONES.substring(i + 1));
      no(x, NONE, 4, "desk", ONES.length());
    }
    CrankBranches y = new CrankBranches();
    int bars = Check.number("bars", 0);
    is(y, 20, "feed", Check.number("    ", 0), bars, 0x20202080, 0, 0);
    no(y, NONE, 4, "desk", 20);
    is(y, 11, "where");
  }

  // ---- promise 3

  @Says(promise = 3, words = "The first n bytes of THE TAPE")
  void p03_bytes_behind_the_first_n_are_not_read() {
    CrankBranches x = new CrankBranches();
    Check.feed(x, ONES + "9;tracer");
    is(x, 1, "desk", ONES.length());
    is(x, 1, "bar", 0, 3);
    CrankBranches y = new CrankBranches();
    Check.feed(y, "barsx");
    no(y, NONE, 4, "desk", 4);
    is(y, 4, "where");
    String text = "tracer -1 -20;pair -5 1 5 0;" + ONES + ";point 100 -2";
    for (int n = 0; n <= text.length(); n++) {
      CrankBranches alone = new CrankBranches();
      Check.feed(alone, text.substring(0, n) + " ".repeat(40));
      CrankBranches more = new CrankBranches();
      Check.feed(more, text);
      due("desk(" + n + ")", more.desk(n), alone.desk(n));
      due("where() of " + n, more.where(), alone.where());
    }
  }

  @Says(promise = 3, words = "The first n bytes")
  void p03_all_700_bytes_may_be_read() {
    String[] ends = {"bars", "bars ground", "tracer -", "tracer 1 1", "point 1", ONES, ONES + ";", "tracer 1 - "};
    int[] faults = {1, 1, 1, 4, 1, 0, 1, 1};
    for (int i = 0; i < ends.length; i++) {
      CrankBranches x = new CrankBranches();
      Check.feed(x, " ".repeat(700 - ends[i].length()) + ends[i]);
      due("desk(700) with '" + ends[i] + "' at its end", x.desk(700), faults[i] == 0 ? 1 : NONE);
      is(x, faults[i], "fault");
      is(x, faults[i] == 0 ? NONE : 700, "where");
    }
  }

  @Says(promise = 3, words = "2 (n")
  void p03_n_of_no_byte_is_a_text_without_a_line() {
    CrankBranches x = new CrankBranches();
    no(x, NONE, 4, "desk", 0);
    is(x, 1, "fault");
    is(x, 0, "where");
    Check.feed(x, "    " + ONES);
    no(x, NONE, 4, "desk", 0);
    is(x, 0, "where");
    is(x, 0, "size", 5);
  }

  @Says(promise = 3, words = "NONE: 2 (n")
  void p03_n_too_small_or_too_large_is_refused_by_2() {
    CrankBranches x = new CrankBranches();
    no(x, NONE, 2, "desk", 1);
    no(x, NONE, 2, "desk", -1);
    Check.feed(x, ROUND);
    for (int n : new int[] {Integer.MIN_VALUE, -1, 41, 700, Integer.MAX_VALUE}) {
      no(x, NONE, 2, "desk", n);
    }
    is(x, 1, "desk", 40);
  }

  @Says(promise = 3, words = "THE TAPE stays")
  void p03_refused_by_2_the_tape_stays() {
    CrankBranches x = new CrankBranches();
    Check.feed(x, ROUND);
    no(x, NONE, 2, "desk", 41);
    is(x, 40, "size", 5);
    is(x, 1, "desk", ROUND.length());
    is(x, 6, "bar", 0, 0);
  }

  @Says(promise = 3, words = "(it is empty then)")
  void p03_the_tape_is_empty_then_whole_or_not_read() {
    CrankBranches x = full();
    is(x, 1, "desk", ONES.length());
    is(x, 0, "size", 5);
    is(x, 20, "feed", 0, 0, 0, 0, 0);
    no(x, NONE, 4, "desk", 7);
    is(x, 0, "size", 5);
    no(x, NONE, 2, "desk", 1);
  }

  @Says(promise = 3, words = "are the DESK from now on")
  void p03_nothing_of_the_desk_before_is_left() {
    CrankBranches x = desk(FULL);
    Check.feed(x, ONES);
    is(x, 1, "desk", ONES.length());
    int[] sizes = {1, 0, 0, 0};
    for (int what = 0; what < 4; what++) {
      is(x, sizes[what], "size", what);
    }
    no(x, NONE, 1, "bar", 1, 0);
    no(x, NONE, 5, "fit", 0);
    // Nor of the one before that, nor of a text with a FAULT.
    String[] texts = {ONES + ";tracer 1 1;", ONES, ONES + ";point 1 1;x", ONES, FULL, ONES};
    int[] linkages = {NONE, 1, NONE, 1, 4, 1};
    for (int i = 0; i < texts.length; i++) {
      due("desk of '" + texts[i] + "'", Check.desk(x, texts[i]), linkages[i]);
    }
    are(x, new long[] {1, 0, 0, 0}, "size");
  }

  @Says(promise = 3, words = "are the DESK from now")
  void p03_a_full_desk_has_all_that_it_was_told() {
    StringBuilder text = new StringBuilder();
    for (int i = 7; i >= 0; i--) {
      text.append("point ").append(100 + i).append(" -").append(200 + i).append(';');
      if (i < 4) {
        text.append("pair -").append(1 + i).append(' ').append(i).append(' ').append(i).append(" 5;");
        text.append("tracer ").append(i).append(" -").append(10 + i).append(';');
        text.append("bars ground ").append(1 + i).append(" crank ").append(5 + i).append(" rod ").append(9 + i);
        text.append(" arm ").append(13 + i).append(i > 0 ? ";" : "");
      }
    }
    CrankBranches x = desk(text.toString());
    for (int i = 7; i >= 0; i--) {
      are(x, new long[] {100 + i, -200 - i}, "point", 7 - i);
      if (i < 4) {
        are(x, new long[] {-1 - i, i, i, 5}, "pair", 3 - i);
        are(x, new long[] {i, -10 - i}, "tracer", 3 - i);
        are(x, new long[] {1 + i, 5 + i, 9 + i, 13 + i}, "bar", 3 - i);
      }
    }
  }

  @Says(promise = 3, words = "(no WALK, nothing to undo)")
  void p03_no_walk_goes_on_at_another_desk() {
    CrankBranches x = desk(ROUND);
    is(x, 1, "begin", 0, 0, 0);
    Check.desk(x, ROUND);
    no(x, NONE, 5, "walk", 0);
  }

  @Says(promise = 3, words = "nothing to undo")
  void p03_nothing_is_to_undo_at_another_desk() {
    CrankBranches x = desk(ROUND);
    is(x, 6, "reshape", 0, 0, 7);
    Check.desk(x, ROUND);
    is(x, 0, "size", 4);
    no(x, 0, 1, "undo");
    is(x, 6, "bar", 0, 0);
  }

  @Says(promise = 3, words = "4 (the DESK stays)")
  void p03_refused_by_4_the_desk_stays() {
    CrankBranches x = desk(FULL);
    is(x, 6, "reshape", 0, 0, 7);
    is(x, 1, "begin", 2, 39, 1);
    Check.feed(x, "bars ground 9 crank 9 rod 9 arm 9;tracer 1 1;point 1 1;pair 1 1 1 1;");
    no(x, NONE, 4, "desk", 68);
    int[] sizes = {4, 4, 8, 4, 1, 0};
    for (int what = 0; what < 6; what++) {
      is(x, sizes[what], "size", what);
    }
    is(x, 7, "bar", 0, 0);
    is(x, -5, "tracer", 2, 0);
    is(x, 30, "point", 0, 1);
    is(x, 2, "pair", 2, 1);
    is(x, 39, "walk", 1);
    is(x, 1, "undo");
    is(x, 6, "bar", 0, 0);
  }

  @Says(promise = 3, term = "IV", words = "Refusals of a call are met in the order in which they are told")
  void p03_2_is_met_ahead_of_4() {
    CrankBranches x = new CrankBranches();
    is(x, 20, "feed", 0, 0, 0, 0, 0);
    no(x, NONE, 2, "desk", 21);
    no(x, NONE, 4, "desk", 20);
  }

  // ---- promise 4

  @Says(promise = 4, words = "The FAULT of the latest desk() not refused by 2")
  void p04_a_desk_refused_by_2_leaves_the_fault() {
    CrankBranches x = new CrankBranches();
    Check.desk(x, "tracer 21 0");
    no(x, NONE, 2, "desk", 1);
    is(x, 2, "fault");
    no(x, NONE, 1, "bar", 0, 0);
    is(x, 2, "fault");
    Check.desk(x, "tracer 20 0");
    is(x, 4, "fault");
  }

  @Says(promise = 4, words = "0 without one")
  void p04_0_without_a_fault() {
    CrankBranches x = new CrankBranches();
    is(x, 0, "fault");
    no(x, NONE, 2, "desk", 1);
    is(x, 0, "fault");
    Check.desk(x, "tracer");
    is(x, 1, "fault");
    Check.desk(x, ONES);
    is(x, 0, "fault");
  }

  // ---- promise 5

  @Says(promise = 5, words = "if the latest call that may be refused was by 4")
  void p05_calls_that_can_not_be_refused_leave_the_place() {
    CrankBranches x = new CrankBranches();
    Check.desk(x, "tracer 1");
    is(x, 8, "where");
    answer(x, "feed", 1, 2, 3, 4, 5);
    answer(x, "fault");
    answer(x, "angles");
    answer(x, "unbuilt", 0);
    answer(x, "size", 9);
    answer(x, "trouble");
    is(x, 8, "where");
  }

  @Says(promise = 5, words = "NONE else")
  void p05_NONE_behind_any_other_call() {
    is(new CrankBranches(), NONE, "where");
    String[] others = {"bar", "which", "walk", "desk", "undo"};
    Object[][] values = {{0, 0}, {1, 1}, {0}, {99}, {}};
    for (int i = 0; i < others.length; i++) {
      CrankBranches x = new CrankBranches();
      Check.desk(x, "tracer 1");
      answer(x, others[i], values[i]);
      due("where() behind " + others[i], x.where(), NONE);
    }
    CrankBranches y = new CrankBranches();
    Check.desk(y, "tracer 1");
    Check.desk(y, ONES);
    is(y, NONE, "where");
  }

  // ---- Terms I: tokens

  @Says(promise = 3, term = "I", words = "blanks, 32, part TOKENS and mean nothing else")
  void p03_blanks_part_tokens_and_mean_nothing_else() {
    fine("   bars   ground   1   crank  1 rod 1 arm 1   ", 1);
    fine("bars ground1crank1rod1arm1", 1);
    fine(" " + ONES + " ; tracer - 1 - 1 ; point-1-1", 1);
    fault("ba rs ground 1", 1, 0);
    fault("bars gro und 1", 1, 5);
    fault("bars ground 1 8 crank 1", 1, 14);
    fault("barsground 1", 1, 0);
  }

  @Says(promise = 4, term = "I", words = "blanks, 32")
  void p04_no_other_byte_is_a_blank() {
    for (int sign : new int[] {0, 9, 10, 13, 31, 33, 160, 255}) {
      fault("bars" + (char) sign + "ground 1", 1, 4);
    }
  }

  @Says(promise = 4, term = "I", words = "WORDS of 1 to 7 small letters that stand together")
  void p04_words_are_of_small_letters_alone() {
    fault("Bars", 1, 0);
    fault("barsS", 1, 4);
    fault("barS ground 1", 1, 0);
    fault("bars`", 1, 4);
    fault("bars{", 1, 4);
    fault("barsa", 1, 0);
    fault("barsz", 1, 0);
    fault("bar", 1, 0);
  }

  @Says(promise = 5, term = "I", words = "WORDS of 1 to 7 small letters")
  void p05_a_word_too_long_is_told_at_its_first_letter() {
    fault("barsxxx ground 1", 1, 0);
    fault("barsxxxx ground 1", 1, 0);
    fault("bars grounds 1", 1, 5);
    fault("bars groundxx 1", 1, 5);
    fault("tracertracer 1 1", 1, 0);
  }

  @Says(promise = 3, term = "I", words = "WHOLES of 1 to 3 digits that do")
  void p03_a_whole_may_have_three_digits() {
    fine("bars ground 018 crank 001 rod 01 arm 1;point 999 -999;pair 005 000 -005 005", 1);
  }

  @Says(promise = 4, term = "I", words = "WHOLES of 1 to 3 digits")
  void p04_four_digits_begin_no_token() {
    fault("bars ground 0001 crank 1", 1, 12);
    fault("bars ground 1111", 1, 12);
    fault("tracer -0000 0", 1, 8);
    fault("point 1000 0", 1, 6);
    fault("pair 1 0000 1 1", 1, 7);
    fault("bars ground 1/", 1, 13);
    fault("bars ground 1:", 1, 13);
  }

  @Says(promise = 4, term = "I", words = "single ones of ; -")
  void p04_two_signs_that_stand_together_are_two_tokens() {
    fault("tracer --1 1", 1, 8);
    fault("tracer 1 - -1", 1, 11);
    fault(ONES + ";;" + ONES, 1, 34);
  }

  @Says(promise = 3, term = "I", words = "LINE {; LINE}")
  void p03_one_line_is_a_text_and_none_is_not() {
    fine(ONES, 1);
    fine("tracer 1 1;" + ONES + ";point 1 1;pair 1 1 1 1", 1);
    fault("", 1, 0);
    fault("   ", 1, 3);
    fault(";", 1, 0);
    fault(";" + ONES, 1, 0);
    fault(ONES + ";", 1, 34);
    fault(ONES + " ; ", 1, 36);
    fault(ONES + "tracer 1 1", 1, 33);
  }

  @Says(promise = 3, term = "I", words = "tracer [-] WHOLE [-] WHOLE")
  void p03_a_sign_may_stand_ahead_where_it_is_told() {
    CrankBranches x = desk(ONES + ";tracer -0 - 20;point - 999 -1;pair -5 1 - 1 0");
    is(x, 0, "tracer", 0, 0);
    is(x, -20, "tracer", 0, 1);
    is(x, -999, "point", 0, 0);
    is(x, -5, "pair", 0, 0);
    is(x, -1, "pair", 0, 2);
    fault("bars ground -1", 1, 12);
    fault("pair 1 -1 1 1", 1, 7);
    fault("pair 1 1 1 -1", 1, 11);
  }

  // ---- Terms I: bounds and room

  @Says(promise = 3, term = "I", words = "(1 .. 18 each: g, a, b, c")
  void p03_bars_are_from_1_to_18() {
    String[] names = {"bars ground ", " crank ", " rod ", " arm "};
    for (int bar = 0; bar < 4; bar++) {
      for (int length : new int[] {0, 1, 18, 19, 999}) {
        StringBuilder text = new StringBuilder();
        int place = 0;
        for (int i = 0; i < 4; i++) {
          text.append(names[i]);
          place = i == bar ? text.length() : place;
          text.append(i == bar ? length : 5);
        }
        if (length == 1 || length == 18) {
          fine(text.toString(), 1);
        } else {
          fault(text.toString(), 2, place);
        }
      }
    }
  }

  @Says(promise = 3, term = "I", words = "a LINKAGE, numbered from 0; up to 4")
  void p03_up_to_4_linkages() {
    String four = "bars ground 2 crank 1 rod 1 arm 1;" + times(3, ONES);
    fine(four, 4);
    CrankBranches x = desk(four);
    is(x, 2, "bar", 0, 0);
    is(x, 1, "bar", 3, 0);
    fault(four + ";" + ONES, 3, four.length() + 1);
  }

  @Says(promise = 3, term = "I", words = "(m, n: -20 .. 20")
  void p03_tracers_are_from_20_back_to_20() {
    fine(ONES + ";tracer 20 20;tracer -20 -20;tracer 0 0", 1);
    fault("tracer 21 0", 2, 7);
    fault("tracer 0 21", 2, 9);
    fault("tracer -21 0", 2, 8);
    fault("tracer 0 -21", 2, 10);
  }

  @Says(promise = 3, term = "I", words = "(m, n: -20 .. 20; numbered from 0; up to 4)")
  void p03_up_to_4_tracers() {
    String four = ONES + ";tracer 7 1;" + times(3, "tracer 1 1");
    CrankBranches x = desk(four);
    is(x, 4, "size", 1);
    is(x, 7, "tracer", 0, 0);
    fault(four + ";tracer 1 1", 3, four.length() + 1);
  }

  @Says(promise = 3, term = "I", words = "-999 .. 999")
  void p03_points_are_from_999_back_to_999() {
    CrankBranches x = desk(ONES + ";point 999 -999");
    is(x, 999, "point", 0, 0);
    is(x, -999, "point", 0, 1);
    fault("point 0 1000", 1, 8);
    fault("point -1000 0", 1, 7);
  }

  @Says(promise = 3, term = "I", words = "-999 .. 999; numbered from 0; up to 8)")
  void p03_up_to_8_points() {
    String eight = ONES + ";point 7 1;" + times(7, "point 1 1");
    CrankBranches x = desk(eight);
    is(x, 8, "size", 2);
    is(x, 7, "point", 0, 0);
    fault(eight + ";point 1 1", 3, eight.length() + 1);
  }

  @Says(promise = 3, term = "I", words = "p -5 .. 5, q 0 .. 5")
  void p03_angles_of_pairs_are_from_5_back_to_5() {
    fine(ONES + ";pair 5 5 -5 5;pair -5 0 5 0", 1);
    fault("pair 6 1 1 1", 2, 5);
    fault("pair -6 1 1 1", 2, 6);
    fault("pair 1 6 1 1", 2, 7);
    fault("pair 1 1 6 1", 2, 9);
    fault("pair 1 1 -6 1", 2, 10);
    fault("pair 1 1 1 6", 2, 11);
  }

  @Says(promise = 3, term = "I", words = "not both 0; numbered from 0; up to 4)")
  void p03_up_to_4_pairs() {
    String four = ONES + ";pair 2 1 1 1;" + times(3, "pair 1 1 1 1");
    CrankBranches x = desk(four);
    is(x, 4, "size", 3);
    is(x, 2, "pair", 0, 0);
    fault(four + ";pair 1 1 1 1", 3, four.length() + 1);
  }

  // ---- Terms I: faults

  @Says(promise = 4, term = "I", words = "FAULTS, the first that is met from the left")
  void p04_the_first_fault_from_the_left() {
    fault("bars ground 19 x", 2, 12);
    fault("bars ground x 19", 1, 12);
    fault("tracer 21 21", 2, 7);
    fault("bars ground 1 crank 0 rod 19 arm 1;", 2, 20);
    fault(times(4, ONES) + ";bars ground 19", 3, 136);
    fault("tracer 21 0", 2, 7);
  }

  @Says(promise = 4, term = "I", words = "of one place the least number")
  void p04_at_the_end_FORM_is_told_and_not_LACKS() {
    fault("tracer 1", 1, 8);
    fault("tracer 1 1;", 1, 11);
    fault("point", 1, 5);
    fault("", 1, 0);
  }

  @Says(promise = 4, term = "I", words = "1 FORM: the first byte that begins no TOKEN")
  void p04_a_byte_that_begins_no_token() {
    fault("_", 1, 0);
    fault(ONES + "_", 1, 33);
    fault(ONES + "; _", 1, 35);
    fault("tracer 1 1_", 1, 10);
    fault("bars ground \u00b2", 1, 12);
  }

  @Says(promise = 5, term = "I", words = "or TOKEN with which no DESK goes on")
  void p05_a_token_with_which_no_desk_goes_on() {
    fault("1", 1, 0);
    fault("-", 1, 0);
    fault("ground 1", 1, 0);
    fault("bars crank 1", 1, 5);
    fault("bars ground 1 ground 1", 1, 14);
    fault("bars ground 1 crank 1 rod 1 arm 1 1", 1, 34);
    fault("bars ground 1 crank 1 rod 1 arm 1 -", 1, 34);
    fault("tracer ; 1", 1, 7);
    fault("tracer 1 1 1", 1, 11);
    fault("pair 1 1 1 1 1", 1, 13);
    fault("point 1 1 point 1 1", 1, 10);
  }

  @Says(promise = 5, term = "I", words = "(the end: its place)")
  void p05_at_the_end_its_place_is_told() {
    fault("bars", 1, 4);
    fault("bars  ", 1, 6);
    fault("bars ground 1 crank 1 rod 1 arm", 1, 31);
    fault("tracer -", 1, 8);
    fault("pair 1 1 1", 1, 10);
    CrankBranches x = new CrankBranches();
    Check.feed(x, ONES);
    no(x, NONE, 4, "desk", 32);
    is(x, 1, "fault");
    is(x, 32, "where");
  }

  @Says(promise = 5, term = "I", words = "2 a WHOLE out of bounds (whatever stands ahead of it")
  void p05_a_whole_out_of_bounds_is_told_at_it_not_at_its_sign() {
    fault("tracer -21 1", 2, 8);
    fault("tracer -   21 1", 2, 11);
    fault("pair - 6 1 1 1", 2, 7);
    fault("bars ground   19", 2, 14);
  }

  @Says(promise = 4, term = "I", words = "a q of 0 behind a p of 0), at it")
  void p04_a_q_of_0_behind_a_p_of_0() {
    fault("pair 0 0 1 1", 2, 7);
    fault("pair -0 0 1 1", 2, 8);
    fault("pair 000 000 1 1", 2, 9);
    fault("pair 1 1 0 0", 2, 11);
    fault("pair 1 1 -0 0", 2, 12);
    fine(ONES + ";pair 0 1 1 0;pair 1 0 0 1", 1);
  }

  @Says(promise = 5, term = "I", words = "3 MANY: a LINE more of its sort than there is room for, at its first WORD")
  void p05_a_line_too_many_is_told_at_its_first_word() {
    fault(times(4, ONES) + ";  bars", 3, 138);
    fault(times(4, "tracer 1 1") + ";tracer 99 1", 3, 44);
    fault(times(8, "point 1 1") + ";point", 3, 80);
    fault(times(4, "pair 1 1 1 1") + ";pair 0 0", 3, 52);
    fault(times(4, "pair 1 1 1 1") + ";pairs 0 0", 1, 52);
  }

  @Says(promise = 4, term = "I", words = "4 LACKS: at the end: no LINKAGE")
  void p04_no_linkage_is_told_at_the_end() {
    fault("tracer 1 1", 4, 10);
    fault("point 1 1;pair 1 1 1 1", 4, 22);
    fault(" tracer 1 1  ", 4, 13);
    fine("tracer 1 1;" + ONES, 1);
  }
}
