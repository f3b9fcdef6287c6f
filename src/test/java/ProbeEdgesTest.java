/** The edges of promises 25 to 29: TEST PRINTS. */
public final class ProbeEdgesTest {
  public static void main(String[] args) throws IllegalAccessException {
    Edges.run(ProbeEdgesTest.class);
  }

  // ---- 25: search ----

  /** "of the HOLES 0 to n - 1 (2 to 8)". */
  static void p25_nIs2To8(Check c) {
    Edges.within(c, 2, 8, Edges.NONE_SUCH, (x, v) -> x.search(v, 1));
  }

  /** "at most d (0 to 2) are DEAD". */
  static void p25_dIs0To2(Check c) {
    Edges.within(c, 0, 2, Edges.NONE_SUCH, (x, v) -> x.search(5, v));
  }

  /** "how many sets there are". */
  static void p25_oneSetAnd37(Check c) {
    DropPens x = new DropPens();
    c.due("none DEAD of 2", x.search(2, 0), 1);
    c.due("1 of 2", x.search(2, 1), 3);
    c.due("all of 2", x.search(2, 2), 4);
    c.due("none DEAD of 8", x.search(8, 0), 1);
    c.due("1 of 8", x.search(8, 1), 9);
    c.due("2 of 8", x.search(8, 2), 37);
  }

  /** "TEST PRINTS begin anew". */
  static void p25_beginAnew(Check c) {
    DropPens x = new DropPens();
    x.search(4, 2);
    for (int i = 0; i < 20; i++) {
      x.test(0, 3, true);
    }
    c.due("all sets again", x.search(4, 2), 11);
    c.due("none TOLD", x.count(3), 0);
    c.due("a TEST again", x.test(0, 3, false), 1);
    c.due("one TOLD", x.count(3), 1);
    x.search(2, 1);
    c.noneSuch("HOLE 2 is none of these now", () -> x.dead(2));
  }

  /** A search() that is refused begins nothing: there was none. */
  static void p25_aRefusedSearchIsNone(Check c) {
    DropPens x = new DropPens();
    c.noneSuch("n 1", () -> x.search(1, 1));
    c.noneSuch("d 3", () -> x.search(8, 3));
    c.noState("test()", () -> x.test(0, 0, true));
    c.noState("dead()", () -> x.dead(0));
    c.noState("fewest()", () -> x.fewest());
    c.noState("next()", () -> x.next());
  }

  // ---- 26: test ----

  /** "IllegalStateException: there was no search()". */
  static void p26_noSearch(Check c) {
    DropPens x = new DropPens();
    c.noState("a RUN", () -> x.test(0, 1, true));
    c.due("none TOLD", x.count(3), 0);
    x.search(2, 1);
    c.due("with a search()", x.test(0, 1, true), 2);
  }

  /** Of both exceptions the one that the face names first. */
  static void p26_noSearchIsAheadOfNoRun(Check c) {
    DropPens x = new DropPens();
    c.noState("first -1", () -> x.test(-1, 0, true));
    c.noState("last 8", () -> x.test(0, 8, true));
    c.noState("first behind last", () -> x.test(1, 0, true));
  }

  /** "IllegalArgumentException: it is no RUN of these": "(first to last)". */
  static void p26_runsOfTheseHoles(Check c) {
    Edges.within(c, 0, 7, Edges.NONE_SUCH, (x, v) -> x.test(0, v, true));
    Edges.within(c, 0, 7, Edges.NONE_SUCH, (x, v) -> x.test(v, 7, true));
    Edges.within(c, 0, 4, Edges.NONE_SUCH, (x, v) -> x.test(v, 4, true));
    for (int n = 2; n <= 8; n++) {
      int all = n;
      DropPens x = new DropPens();
      x.search(n, 1);
      c.due("all of " + n, x.test(0, n - 1, true), n);
      c.due("the last of " + n + " alone", x.test(n - 1, n - 1, false), n - 1);
      c.due("the first of " + n + " alone", x.test(0, 0, false), n - 2);
      c.noneSuch("one behind " + n, () -> x.test(0, all, true));
      c.noneSuch("one behind " + n + " alone", () -> x.test(all, all, true));
      c.noneSuch("first behind last", () -> x.test(1, 0, true));
      c.due("three TOLD", x.count(3), 3);
    }
  }

  /** "TOLD tests, 20 at most"; "-1: 20 were told". */
  static void p26_20ToldAndThe21st(Check c) {
    DropPens x = new DropPens();
    x.search(8, 2);
    for (int told = 1; told <= 20; told++) {
      c.due("TEST " + told, x.test(0, 7, true), 36);
      c.due("TOLD", x.count(3), told);
    }
    c.due("the 21st", x.test(0, 6, false), -1);
    c.due("20 TOLD", x.count(3), 20);
    c.due("as many sets are left", x.dead(-1), 36);
    c.noneSuch("no RUN is ahead of that", () -> x.test(0, 8, true));
    Edges.idle(c, "the 21st", y -> {
      for (int i = 0; i < 19; i++) {
        y.test(0, 7, true);
      }
      return 0;
    }, y -> y.test(0, 0, false), -1);
  }

  /** "it is seen broken, if one DEAD HOLE is in it": tests may bar all sets. */
  static void p26_noSetIsLeft(Check c) {
    DropPens x = new DropPens();
    x.search(3, 0);
    c.due("whole", x.test(0, 2, false), 1);
    c.due("broken", x.test(0, 2, true), 0);
    c.due("whole again", x.test(0, 2, false), 0);
    DropPens y = new DropPens();
    y.search(3, 1);
    y.test(0, 0, true);
    c.due("two DEAD, where one can be", y.test(1, 2, true), 0);
    y.search(3, 2);
    y.test(0, 0, true);
    c.due("two DEAD, where two can be", y.test(1, 2, true), 2);
  }

  // ---- 27: dead ----

  /** "a HOLE .. (NONE: all that are left)". */
  static void p27_holesOfTheseAndNone(Check c) {
    Edges.within(c, -1, 7, Edges.NONE_SUCH, DropPens::dead);
    for (int n = 2; n <= 8; n++) {
      int all = n;
      DropPens x = new DropPens();
      x.search(n, 2);
      c.due("all", x.dead(DropPens.NONE), 1 + n + n * (n - 1) / 2);
      c.due("the first", x.dead(0), n);
      c.due("the last", x.dead(n - 1), n);
      c.noneSuch("one behind", () -> x.dead(all));
    }
  }

  /** "IllegalStateException" without a search(), ahead of a HOLE that is none such. */
  static void p27_noSearch(Check c) {
    DropPens x = new DropPens();
    c.noState("all", () -> x.dead(-1));
    c.noState("HOLE 0", () -> x.dead(0));
    c.noState("HOLE 8", () -> x.dead(8));
    c.noState("HOLE -2", () -> x.dead(-2));
  }

  /** No set is left with it, or all are. */
  static void p27_noneAndAllWithIt(Check c) {
    DropPens x = new DropPens();
    x.search(4, 2);
    x.test(1, 1, true);
    c.due("all with HOLE 1", x.dead(1), 4);
    c.due("all", x.dead(-1), 4);
    x.test(0, 0, false);
    c.due("none with HOLE 0", x.dead(0), 0);
    x.test(1, 1, false);
    c.due("none left", x.dead(-1), 0);
    c.due("none left with HOLE 1", x.dead(1), 0);
  }

  // ---- 28 and 29: fewest, next ----

  /** "IllegalStateException" without a search(). */
  static void p28_noSearch(Check c) {
    DropPens x = new DropPens();
    c.noState("fewest", () -> x.fewest());
    x.search(2, 0);
    c.due("with a search()", x.fewest(), 0);
  }

  /** "(0: one set alone is left)". */
  static void p28_oneSetAlone(Check c) {
    DropPens x = new DropPens();
    x.search(8, 0);
    c.due("one at first", x.fewest(), 0);
    x.search(2, 1);
    x.test(0, 0, true);
    c.due("one behind a TEST", x.fewest(), 0);
    x.search(2, 2);
    x.test(0, 0, true);
    c.due("two are left", x.fewest(), 1);
  }

  /** "NONE; also if none is left". */
  static void p28_noneIsLeft(Check c) {
    DropPens x = new DropPens();
    x.search(2, 0);
    c.due("one is left", x.fewest(), 0);
    x.test(0, 0, true);
    c.due("none is left", x.fewest(), DropPens.NONE);
    c.due("next", x.next(), DropPens.NONE);
  }

  /** "5 at most (else NONE)". */
  static void p28_fiveAtMost(Check c) {
    DropPens x = new DropPens();
    x.search(6, 2);
    c.due("22 sets in 5", x.fewest(), 5);
    c.due("next", x.next(), 1);
    x.search(7, 2);
    c.due("29 sets are told apart in no 5 TESTS", x.fewest(), DropPens.NONE);
    c.due("next", x.next(), DropPens.NONE);
    x.search(8, 2);
    c.due("37 sets are more than 5 TESTS can tell apart", x.fewest(), DropPens.NONE);
    x.test(0, 7, false);
    c.due("one is left of them", x.fewest(), 0);
  }

  /** "in the worst case": what is seen broken may need more TESTS than its sets alone tell. */
  static void p28_theWorstCaseIsABrokenOne(Check c) {
    DropPens x = new DropPens();
    x.search(7, 2);
    x.test(0, 2, true);
    c.due("sets", x.test(1, 5, true), 16);
    c.due("16 sets in 5, not in 4", x.fewest(), 5);
    c.due("next", x.next(), 0);
  }

  /** "in the worst case one set alone is left": two sets need 1, three need 2, 2 to the power of n need n. */
  static void p28_oneTwoAndThreeTests(Check c) {
    DropPens x = new DropPens();
    x.search(2, 1);
    c.due("three sets", x.fewest(), 2);
    x.test(0, 1, true);
    c.due("two sets", x.fewest(), 1);
    x.search(3, 1);
    c.due("four sets", x.fewest(), 2);
    x.search(4, 1);
    c.due("five sets", x.fewest(), 3);
    x.search(7, 1);
    c.due("eight sets", x.fewest(), 3);
    x.search(8, 1);
    c.due("nine sets", x.fewest(), 4);
  }

  /** "IllegalStateException" without a search(). */
  static void p29_noSearch(Check c) {
    DropPens x = new DropPens();
    c.noState("next", () -> x.next());
    x.search(2, 1);
    c.taken("with a search()", () -> x.next());
  }

  /** "NONE: FEWEST is 0 or NONE." */
  static void p29_noneIfFewestIs0OrNone(Check c) {
    DropPens x = new DropPens();
    x.search(5, 0);
    c.due("FEWEST is 0", x.next(), DropPens.NONE);
    x.test(0, 0, true);
    c.due("FEWEST is NONE", x.next(), DropPens.NONE);
    x.search(2, 1);
    c.due("FEWEST is 2", x.next(), 0);
  }

  /** "of all RUNS that begin a way with FEWEST the first (by first, then by last HOLE)"; "8 times its first". */
  static void p29_theFirstRun(Check c) {
    DropPens x = new DropPens();
    x.search(8, 1);
    x.test(0, 5, false);
    // no HOLE, 6 or 7 are left: a RUN up to 5 tells nothing, so the first is 0 to 6
    c.due("0 to 6", x.next(), 6);
    x.test(0, 7, true);
    c.due("6 or 7: 0 to 6", x.next(), 6);
    x.search(8, 2);
    x.test(0, 0, true);
    x.test(1, 6, false);
    // HOLE 0 alone, or 7 with it: every RUN with 0 is broken, so the first begins behind it
    c.due("1 to 7", x.next(), 8 + 7);
    x.search(8, 2);
    x.test(6, 6, true);
    x.test(0, 5, false);
    c.due("7 to 7", x.next(), 8 * 7 + 7);
  }
}
