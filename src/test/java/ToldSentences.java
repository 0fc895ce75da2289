/** Promises 58 to 60, what the Terms say of TROUBLE, and what is said of all calls: one test for each sentence. */
final class ToldSentences extends Sentences {
  // ---- ahead of all promises

  @Says(promise = 0, words = "An object is used for at most 512 calls after it has been made")
  void p00_the_512th_call_is_answered_as_the_first() {
    CrankBranches x = desk(ROUND);
    int fed = (ROUND.length() + 19) / 20 + 1;
    for (int call = fed + 1; call <= 510; call++) {
      due("call " + call, x.bar(0, call % 4), call % 4 == 0 ? 6 : call % 4 == 1 ? 2 : 5);
    }
    due("call 511", x.joint(0, 29, 0, 0), 42);
    due("call 512", x.trouble(), 0);
  }

  // ---- promise 58

  @Says(promise = 58, words = "NoSuchElementException if there is none such")
  void p58_none_such_throws() {
    CrankBranches x = desk(FULL);
    is(x, 1, "unbuilt", 0);
    for (int i : new int[] {Integer.MIN_VALUE, -1, 1, 2, 4, Integer.MAX_VALUE}) {
      is(x, THROWS, "unbuilt", i);
    }
    is(new CrankBranches(), THROWS, "unbuilt", 0);
    is(desk(ROUND), THROWS, "unbuilt", 0);
  }

  @Says(promise = 58, words = "The i-th LINKAGE, by numbers, that can't be BUILT")
  void p58_all_four_and_none_that_is_just_built() {
    CrankBranches x = desk(APART + ";" + APART + ";" + APART + ";" + APART);
    are(x, new long[] {0, 1, 2, 3}, "unbuilt");
    is(x, THROWS, "unbuilt", 4);
    CrankBranches y = desk(FLAT + ";" + APART + ";" + FLAT + ";bars ground 1 crank 1 rod 4 arm 1");
    are(y, new long[] {1, 3}, "unbuilt");
    is(y, THROWS, "unbuilt", 2);
    is(y, 4, "reshape", 3, 2, 3);
    is(y, THROWS, "unbuilt", 1);
  }

  @Says(promise = 58, term = "IV",
      words = "TROUBLE of the latest call that may be refused (those of which a number is told here)")
  void p58_throwing_leaves_trouble() {
    CrankBranches x = desk(ROUND);
    no(x, NONE, 2, "which", 0, 0);
    is(x, THROWS, "unbuilt", 0);
    is(x, 2, "trouble");
  }

  // ---- promise 59

  @Says(promise = 59, words = "NONE for others")
  void p59_NONE_for_others() {
    for (int what : new int[] {Integer.MIN_VALUE, -1, 6, Integer.MAX_VALUE}) {
      is(new CrankBranches(), NONE, "size", what);
      is(desk(FULL), NONE, "size", what);
    }
  }

  @Says(promise = 59, words = "0 for what there isn't")
  void p59_0_for_what_there_is_not() {
    are(new CrankBranches(), new long[] {0, 0, 0, 0, 0, 0}, "size");
    are(desk(ROUND), new long[] {1, 0, 0, 0, 0, 0}, "size");
  }

  @Says(promise = 59, words = "0 LINKAGES, 1 TRACERS, 2 POINTS, 3 PAIRS, 4 what can be undone, 5 bytes of THE TAPE")
  void p59_of_each_as_many_as_there_is_room_for() {
    CrankBranches x = desk(FULL);
    for (int i = 0; i < 12; i++) {
      answer(x, "reshape", 0, 0, 1 + i);
    }
    for (int i = 0; i < 36; i++) {
      answer(x, "feed", 0, 0, 0, 0, 0);
    }
    are(x, new long[] {4, 4, 8, 4, 10, 700}, "size");
  }

  // ---- promise 60

  @Says(promise = 60, words = "TROUBLE")
  void p60_a_new_object_has_no_trouble() {
    CrankBranches x = new CrankBranches();
    is(x, 0, "trouble");
    is(x, 0, "trouble");
  }

  @Says(promise = 60, term = "IV", words = "0 it wasn't")
  void p60_0_behind_a_call_that_was_not_refused() {
    CrankBranches x = desk(FULL);
    no(x, NONE, 1, "bar", 4, 0);
    is(x, 6, "bar", 0, 0);
    no(x, NONE, 2, "which", 6, 0);
    is(x, -2, "easiest", 1);
    no(x, 0, 5, "begin", 1, 0, 0);
    is(x, 1, "begin", 0, 0, 0);
    Check.desk(x, "tracer");
    is(x, 4, "trouble");
    Check.desk(x, ROUND);
    is(x, 0, "trouble");
  }

  @Says(promise = 60, term = "IV", words = "TROUBLE of the latest call that may be refused")
  void p60_calls_of_which_no_number_is_told_leave_it() {
    Object[][] values = {{1, 2, 3, 4, 5}, {}, {}, {}, {0}, {9}, {}};
    String[] names = {"feed", "fault", "where", "angles", "unbuilt", "size", "trouble"};
    for (int i = 0; i < names.length; i++) {
      CrankBranches x = desk(ROUND);
      no(x, NONE, 2, "which", 0, 0);
      answer(x, names[i], values[i]);
      due("trouble() behind " + names[i], x.trouble(), 2);
      is(x, 29, "which", 1, 1);
      answer(x, names[i], values[i]);
      due("trouble() behind " + names[i], x.trouble(), 0);
    }
    CrankBranches full = new CrankBranches();
    for (int i = 0; i < 36; i++) {
      answer(full, "feed", 0, 0, 0, 0, 0);
    }
    is(full, 0, "trouble");
  }

  @Says(promise = 60, term = "IV",
      words = "1 there is none such; 2 a number; 4 a FAULT; 5 not so (not LAWFUL; none; not BUILT)")
  void p60_each_of_its_numbers() {
    CrankBranches x = new CrankBranches();
    no(x, NONE, 1, "kind", 0);
    no(x, NONE, 2, "desk", 1);
    no(x, NONE, 4, "desk", 0);
    no(x, NONE, 5, "walk", 0);
    CrankBranches y = desk(FULL);
    no(y, NOTHING, 5, "joint", 2, 19, 0, 0);
    no(y, LOW, 5, "least", 1, false);
  }

  /** As the class has it, not as this test was compiled with. */
  private static int constant(String name) {
    try {
      return CrankBranches.class.getField(name).getInt(null);
    } catch (ReflectiveOperationException e) {
      throw new IllegalStateException(e);
    }
  }

  @Says(promise = 60, term = "IV", words = "`NONE = -1`: There is none; refused.")
  void p60_the_constant_NONE() {
    due("NONE", constant("NONE"), -1);
  }

  @Says(promise = 60, term = "IV", words = "`NOTHING = -1000000000`: What is refused, where a WHOLE may be below 0.")
  void p60_the_constant_NOTHING() {
    due("NOTHING", constant("NOTHING"), -1000000000);
  }
}
