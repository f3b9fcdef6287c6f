/** The edges of promises 33 to 39: SHARES, LIMIT, PHASES, PACE, SLOW, WORST, BEST PHASES. */
public final class NeighbourEdgesTest {
  public static void main(String[] args) throws IllegalAccessException {
    Edges.run(NeighbourEdgesTest.class);
  }

  /** These HOLES throw in COLUMN 3, in PASS 0; no SHARE is set. */
  private static DropPens throwing(int... holes) {
    DropPens x = new DropPens();
    x.set(0, 0);
    x.pass(0);
    for (int hole : holes) {
      x.wish(16 * hole + 3, 1);
    }
    shares(x, 0, 0, 0);
    return x;
  }

  private static void shares(DropPens x, int one, int two, int three) {
    x.share(1, one);
    x.share(2, two);
    x.share(3, three);
  }

  // ---- 33 to 35: share, limit, phase ----

  /** "The SHARE of so many HOLES away (1 to 3)". */
  static void p33_awayIs1To3(Check c) {
    Edges.within(c, 1, 3, Edges.NONE_SUCH, (x, v) -> x.share(v, 50));
  }

  /** "SHARES by 1, 2, 3 HOLES away (0 to 100 each)". */
  static void p33_sharesAre0To100(Check c) {
    for (int away = 1; away <= 3; away++) {
      int far = away;
      Edges.within(c, 0, 100, Edges.NONE_SUCH, (x, v) -> x.share(far, v));
      DropPens x = new DropPens();
      x.share(away, 100);
      c.due("the most", x.share(away, 0), 100);
      c.due("the least", x.share(away, 0), 0);
    }
  }

  /** "a LIMIT (0 to 100)". */
  static void p34_limitIs0To100(Check c) {
    Edges.within(c, 0, 100, Edges.NONE_SUCH, DropPens::limit);
    DropPens x = new DropPens();
    c.due("at first", x.limit(100), 60);
    c.due("the most", x.limit(0), 100);
    c.due("the least", x.limit(0), 0);
  }

  /** "a PHASE (0 to 2)". */
  static void p35_phasesAre0To2(Check c) {
    Edges.within(c, 0, 2, Edges.NONE_SUCH, (x, v) -> x.phase(5, v));
    DropPens x = new DropPens();
    c.due("at first", x.phase(5, 2), 0);
    c.due("the most", x.phase(5, 0), 2);
    c.due("the least", x.phase(5, 1), 0);
    c.due("another HOLE", x.phase(6, 1), 0);
  }

  /** "IndexOutOfBoundsException" for no such HOLE, ahead of a PHASE that is none such. */
  static void p35_holesAre0To23(Check c) {
    Edges.within(c, 0, 23, Edges.NO_INDEX, (x, v) -> x.phase(v, 1));
    Edges.refused(c, "HOLE 24, PHASE 3", Edges.NO_INDEX, x -> x.phase(24, 3));
    Edges.refused(c, "HOLE -1, PHASE -1", Edges.NO_INDEX, x -> x.phase(-1, -1));
  }

  /** The PHASE of a HOLE that is SHUT is told as well. */
  static void p35_shutHolesHavePhases(Check c) {
    DropPens x = new DropPens();
    x.shut(5, true);
    c.due("at first", x.phase(5, 2), 0);
    c.due("then", x.phase(5, 1), 2);
  }

  // ---- 36: pace ----

  /** "no such COLUMN": NONE is none here. */
  static void p36_columnsAre0To15(Check c) {
    Edges.within(c, 0, 15, Edges.NO_INDEX, (x, v) -> x.pace(v, 0, 0));
  }

  /** "no such HOLE". */
  static void p36_holesAre0To23(Check c) {
    Edges.within(c, 0, 23, Edges.NO_INDEX, (x, v) -> x.pace(0, 0, v));
  }

  /** "NoSuchElementException: no such PASS". */
  static void p36_passesThatThereAre(Check c) {
    Edges.within(c, 0, 2, Edges.NO_ELEMENT, (x, v) -> x.pace(0, v, 0));
    DropPens x = new DropPens();
    c.noPass("none at all", () -> x.pace(0, 0, 0));
  }

  /** Of both exceptions the one that the face names first. */
  static void p36_noIndexIsAheadOfNoPass(Check c) {
    Edges.refused(c, "COLUMN 16, PASS 3", Edges.NO_INDEX, x -> x.pace(16, 3, 0));
    Edges.refused(c, "HOLE 24, PASS 3", Edges.NO_INDEX, x -> x.pace(0, 3, 24));
    Edges.refused(c, "HOLE -1, PASS -1", Edges.NO_INDEX, x -> x.pace(0, -1, -1));
  }

  /** "NONE: it is not given." */
  static void p36_noneIfNotGiven(Check c) {
    DropPens x = throwing(5);
    c.due("given", x.pace(3, 0, 5), 100);
    c.due("another HOLE", x.pace(3, 0, 6), -1);
    c.due("another COLUMN", x.pace(4, 0, 5), -1);
    x.pass(0);
    c.due("PASS 1 throws it now", x.pace(3, 1, 5), 100);
    c.due("PASS 0 not any more", x.pace(3, 0, 5), -1);
    x.shut(5, true);
    c.due("SHUT", x.pace(3, 1, 5), -1);
  }

  /** "100 less the SHARES of all others ... 0 at least". */
  static void p36_100AtMost0AtLeast(Check c) {
    DropPens x = throwing(5);
    shares(x, 100, 100, 100);
    c.due("alone", x.pace(3, 0, 5), 100);
    x.wish(16 * 6 + 3, 1);
    c.due("100 less 100", x.pace(3, 0, 5), 0);
    x.wish(16 * 4 + 3, 1);
    c.due("100 less 200", x.pace(3, 0, 5), 0);
    shares(x, 50, 0, 0);
    c.due("100 less 50 twice", x.pace(3, 0, 5), 0);
    shares(x, 49, 0, 0);
    c.due("100 less 49 twice", x.pace(3, 0, 5), 2);
    shares(x, 51, 0, 0);
    c.due("100 less 51 twice", x.pace(3, 0, 5), 0);
  }

  /** "1 to 3 HOLES away". */
  static void p36_threeAwayAndFour(Check c) {
    for (int away = 1; away <= 4; away++) {
      DropPens x = throwing(5, 5 + away);
      shares(x, 10, 20, 40);
      int want = away == 4 ? 100 : 100 - (5 << away);
      c.due(away + " below", x.pace(3, 0, 5), want);
      c.due(away + " above", x.pace(3, 0, 5 + away), want);
    }
    DropPens all = throwing(2, 3, 4, 5, 6, 7, 8, 9, 1);
    shares(all, 1, 2, 4);
    c.due("three on either side", all.pace(3, 0, 5), 100 - 14);
  }

  /** "TOGETHER are thrown, of one PASS and COLUMN, the DROPS given there whose HOLES have one PHASE." */
  static void p36_togetherOfOnePassColumnAndPhase(Check c) {
    DropPens x = throwing(5, 6);
    shares(x, 30, 0, 0);
    c.due("TOGETHER", x.pace(3, 0, 5), 70);
    x.phase(6, 2);
    c.due("of another PHASE", x.pace(3, 0, 5), 100);
    x.phase(5, 2);
    c.due("of one PHASE again", x.pace(3, 0, 5), 70);
    x.wish(16 * 6 + 3, 0);
    x.wish(16 * 6 + 4, 1);
    c.due("of another COLUMN", x.pace(3, 0, 5), 100);
    // ROW 6 of COLUMN 3 by HOLE 7 in PASS 1
    x.wish(16 * 6 + 3, 1);
    x.shut(6, true);
    x.pass(-1);
    x.phase(7, 2);
    c.due("thrown in PASS 1", x.pace(3, 1, 7), 100);
    // HOLE 5 falls in ROW 5 in PASS 0, HOLE 6 is SHUT
    c.due("of another PASS", x.pace(3, 0, 5), 100);
  }

  // ---- 37: slow ----

  /** "no such COLUMN". */
  static void p37_columnsAre0To15(Check c) {
    Edges.within(c, 0, 15, Edges.NO_INDEX, (x, v) -> x.slow(v, 0));
  }

  /** "no such PASS (so below)"; a COLUMN that is none is ahead of it. */
  static void p37_passesThatThereAre(Check c) {
    Edges.within(c, 0, 2, Edges.NO_ELEMENT, (x, v) -> x.slow(0, v));
    Edges.refused(c, "COLUMN 16, PASS 3", Edges.NO_INDEX, x -> x.slow(16, 3));
    Edges.refused(c, "COLUMN -1, PASS -1", Edges.NO_INDEX, x -> x.slow(-1, -1));
  }

  /** "SLOW: its PACE is below LIMIT." */
  static void p37_paceAsLimitAndBelow(Check c) {
    DropPens x = throwing(5, 6);
    shares(x, 40, 0, 0);
    x.limit(60);
    c.due("PACE 60, LIMIT 60", x.slow(3, 0), 0);
    x.limit(61);
    c.due("PACE 60, LIMIT 61", x.slow(3, 0), 2);
    shares(x, 39, 0, 0);
    c.due("PACE 61, LIMIT 61", x.slow(3, 0), 0);
  }

  /** "a LIMIT (0 to 100)": with 0 none is SLOW, with 100 all that lose anything. */
  static void p37_limit0And100(Check c) {
    DropPens x = throwing(5, 6, 10);
    shares(x, 100, 0, 0);
    x.limit(0);
    c.due("PACE 0, LIMIT 0", x.slow(3, 0), 0);
    x.limit(1);
    c.due("PACE 0, LIMIT 1", x.slow(3, 0), 2);
    shares(x, 1, 0, 0);
    x.limit(99);
    c.due("PACE 99, LIMIT 99", x.slow(3, 0), 0);
    x.limit(100);
    c.due("PACE 99 and 100, LIMIT 100", x.slow(3, 0), 2);
  }

  /** No DROP is given, and all are. */
  static void p37_noneAndAll24(Check c) {
    DropPens x = throwing();
    shares(x, 100, 100, 100);
    x.limit(100);
    c.due("none", x.slow(3, 0), 0);
    for (int row = 0; row < 24; row++) {
      x.wish(16 * row + 3, 1);
    }
    c.due("all", x.slow(3, 0), 24);
    c.due("another COLUMN", x.slow(2, 0), 0);
  }

  // ---- 38: worst ----

  /** "no such HOLE". */
  static void p38_holesAre0To23(Check c) {
    Edges.within(c, 0, 23, Edges.NO_INDEX, DropPens::worst);
  }

  /** "all HOLES of its PHASE 1 to 3 away": at the ends of the HEAD there are fewer. */
  static void p38_theEndsOfTheHead(Check c) {
    DropPens x = new DropPens();
    shares(x, 1, 2, 4);
    int[] want = {93, 92, 90, 86, 86};
    for (int i = 0; i < want.length; i++) {
      c.due("HOLE " + i, x.worst(i), want[i]);
      c.due("HOLE " + (23 - i), x.worst(23 - i), want[i]);
    }
  }

  /** "1 to 3 away". */
  static void p38_threeAwayAndFour(Check c) {
    DropPens x = new DropPens();
    shares(x, 0, 0, 10);
    for (int hole = 0; hole < 24; hole++) {
      x.phase(hole, hole == 10 || hole == 13 || hole == 6 ? 1 : 0);
    }
    c.due("13 is 3 away, 6 is 4 away", x.worst(10), 90);
    c.due("10 is 4 away", x.worst(6), 100);
    x.phase(13, 0);
    x.phase(14, 1);
    c.due("14 is 4 away", x.worst(10), 100);
  }

  /** "that are not SHUT". */
  static void p38_shutHolesDoNotCount(Check c) {
    DropPens x = new DropPens();
    shares(x, 25, 0, 0);
    c.due("two beside it", x.worst(10), 50);
    x.shut(9, true);
    c.due("one beside it", x.worst(10), 75);
    x.shut(11, true);
    c.due("none beside it", x.worst(10), 100);
    c.due("a SHUT one itself", x.worst(9), 50);
  }

  /** "0 at least". */
  static void p38_0AtLeast(Check c) {
    DropPens x = new DropPens();
    shares(x, 50, 0, 0);
    c.due("100 less 50 twice", x.worst(10), 0);
    shares(x, 49, 0, 0);
    c.due("100 less 49 twice", x.worst(10), 2);
    shares(x, 51, 0, 0);
    c.due("100 less 51 twice", x.worst(10), 0);
    shares(x, 100, 100, 100);
    c.due("100 less 600", x.worst(10), 0);
  }

  // ---- 39: phases ----

  /** "no such COLUMN". */
  static void p39_columnsAre0To15(Check c) {
    Edges.within(c, 0, 15, Edges.NO_INDEX, (x, v) -> x.phases(v, 0, -1));
  }

  /** "no such PASS". */
  static void p39_passesThatThereAre(Check c) {
    Edges.within(c, 0, 2, Edges.NO_ELEMENT, (x, v) -> x.phases(0, v, -1));
  }

  /** "what -1 how many are SLOW then, -2 the sum, or .. HOLE what (0 to 23)". */
  static void p39_whatIsMinus2To23(Check c) {
    Edges.within(c, -2, 23, Edges.NONE_SUCH, (x, v) -> x.phases(0, 0, v));
  }

  /** Of several exceptions the one that the face names first. */
  static void p39_noColumnThenNoPassThenNoWhat(Check c) {
    Edges.refused(c, "all wrong", Edges.NO_INDEX, x -> x.phases(16, 3, 24));
    Edges.refused(c, "COLUMN and what", Edges.NO_INDEX, x -> x.phases(-1, 0, -3));
    Edges.refused(c, "PASS and what", Edges.NO_ELEMENT, x -> x.phases(0, 3, 24));
    Edges.refused(c, "PASS -1 and what", Edges.NO_ELEMENT, x -> x.phases(0, -1, -3));
  }

  /** "-3: its DROP is not given there." */
  static void p39_minus3IfNotGiven(Check c) {
    DropPens x = throwing(0, 23);
    c.due("HOLE 0", x.phases(3, 0, 0), 0);
    c.due("HOLE 1", x.phases(3, 0, 1), -3);
    c.due("HOLE 22", x.phases(3, 0, 22), -3);
    c.due("HOLE 23", x.phases(3, 0, 23), 0);
    c.due("another COLUMN", x.phases(2, 0, 0), -3);
  }

  /** No DROP is given: nothing is SLOW, no PHASE is told. */
  static void p39_nothingGiven(Check c) {
    DropPens x = throwing();
    shares(x, 100, 100, 100);
    x.limit(100);
    c.due("SLOW", x.phases(3, 0, -1), 0);
    c.due("sum", x.phases(3, 0, -2), 0);
    for (int hole = 0; hole < 24; hole++) {
      c.due("HOLE " + hole, x.phases(3, 0, hole), -3);
    }
  }

  private static void best(Check c, DropPens x, int slow, int sum, int first, int... phases) {
    c.due("SLOW", x.phases(3, 0, -1), slow);
    c.due("sum", x.phases(3, 0, -2), sum);
    for (int i = 0; i < phases.length; i++) {
      c.due("HOLE " + (first + i), x.phases(3, 0, first + i), phases[i]);
    }
  }

  /** "those with which the fewest are SLOW; of these with the least sum of PHASES". */
  static void p39_fewestSlowThenLeastSum(Check c) {
    DropPens x = throwing(5, 6);
    shares(x, 100, 100, 100);
    x.limit(100);
    best(c, x, 0, 1, 5, 0, 1);
    x.wish(16 * 7 + 3, 1);
    best(c, x, 0, 3, 5, 0, 1, 2);
    // of four one has to share: two are SLOW, and 0 0 1 2 has the least sum
    x.wish(16 * 8 + 3, 1);
    best(c, x, 2, 3, 5, 0, 0, 1, 2);
    x.limit(0);
    best(c, x, 0, 0, 5, 0, 0, 0, 0);
  }

  /** "SLOW: its PACE is below LIMIT", "0 at least". */
  static void p39_paceAsLimitAndBelow(Check c) {
    DropPens x = throwing(5, 6);
    shares(x, 40, 0, 0);
    x.limit(60);
    best(c, x, 0, 0, 5, 0, 0);
    x.limit(61);
    best(c, x, 0, 1, 5, 0, 1);
    DropPens y = throwing(5, 6, 7, 8);
    shares(y, 100, 100, 100);
    y.limit(1);
    best(c, y, 2, 3, 5, 0, 0, 1, 2);
    y.limit(0);
    best(c, y, 0, 0, 5, 0, 0, 0, 0);
  }

  /** "1 to 3 HOLES away". */
  static void p39_threeAwayAndFour(Check c) {
    DropPens x = throwing(5, 8);
    shares(x, 0, 0, 1);
    x.limit(100);
    c.due("3 away", x.phases(3, 0, -2), 1);
    c.due("HOLE 8", x.phases(3, 0, 8), 1);
    DropPens y = throwing(5, 9);
    shares(y, 100, 100, 100);
    y.limit(100);
    c.due("4 away", y.phases(3, 0, -2), 0);
    c.due("HOLE 9", y.phases(3, 0, 9), 0);
  }

  /** At the ends of the HEAD, and "the least sum" ahead of "the first": the HOLE that slows both others goes apart. */
  static void p39_theEndsOfTheHead(Check c) {
    DropPens x = throwing(0, 1, 3);
    shares(x, 100, 0, 100);
    x.limit(100);
    best(c, x, 0, 1, 0, 1, 0, -3, 0);
    DropPens y = throwing(20, 22, 23);
    shares(y, 100, 0, 100);
    y.limit(100);
    best(c, y, 0, 1, 20, 0, -3, 0, 1);
  }

  /** "of these the first (HOLE by HOLE the least PHASE)". */
  static void p39_ofTheseTheFirst(Check c) {
    // only neighbours slow one another: 0 1 0 1 and 1 0 1 0 have one sum
    DropPens x = throwing(5, 6, 7, 8);
    shares(x, 100, 0, 0);
    x.limit(100);
    best(c, x, 0, 2, 5, 0, 1, 0, 1);
    x.wish(16 * 9 + 3, 1);
    best(c, x, 0, 2, 5, 0, 1, 0, 1, 0);
  }

  /** All 24 are given. */
  static void p39_all24(Check c) {
    int[] holes = new int[24];
    for (int hole = 0; hole < 24; hole++) {
      holes[hole] = hole;
    }
    DropPens x = throwing(holes);
    x.limit(100);
    best(c, x, 0, 0, 0, new int[24]);
    shares(x, 100, 100, 0);
    // three in turn: 0 1 2 eight times
    int[] turns = new int[24];
    for (int hole = 0; hole < 24; hole++) {
      turns[hole] = hole % 3;
    }
    best(c, x, 0, 24, 0, turns);
    for (int hole = 0; hole < 24; hole++) {
      x.phase(hole, turns[hole]);
    }
    c.due("set so", x.slow(3, 0), 0);
  }

  /** Asked in turn for other PASSES and COLUMNS, and behind changes, each answer is its own. */
  static void p39_askedInTurn(Check c) {
    DropPens x = throwing(5, 6, 17);
    x.pass(12);
    shares(x, 100, 0, 0);
    x.limit(100);
    // ROW 17 is thrown by HOLE 5 in PASS 1
    c.due("PASS 0", x.phases(3, 0, -2), 1);
    c.due("PASS 1", x.phases(3, 1, -2), 0);
    c.due("HOLE 5 in PASS 1", x.phases(3, 1, 5), 0);
    c.due("PASS 0 again", x.phases(3, 0, -2), 1);
    c.due("another COLUMN", x.phases(4, 0, -2), 0);
    c.due("COLUMN 3 again", x.phases(3, 0, -2), 1);
    x.shut(6, true);
    c.due("a HOLE is SHUT", x.phases(3, 0, -2), 0);
    x.shut(6, false);
    c.due("open again", x.phases(3, 0, -2), 1);
    x.lean(6, 2);
    c.due("it leans", x.phases(3, 0, -2), 0);
    x.lean(6, 0);
    c.due("upright again", x.phases(3, 0, -2), 1);
    x.wish(16 * 6 + 3, 0);
    c.due("not WISHED", x.phases(3, 0, -2), 0);
    x.wish(16 * 6 + 3, 1);
    c.due("WISHED again", x.phases(3, 0, -2), 1);
    x.share(1, 0);
    c.due("no SHARE", x.phases(3, 0, -2), 0);
    x.share(1, 100);
    c.due("a SHARE again", x.phases(3, 0, -2), 1);
    x.limit(0);
    c.due("LIMIT 0", x.phases(3, 0, -2), 0);
    x.limit(100);
    c.due("LIMIT 100 again", x.phases(3, 0, -2), 1);
    x.mark();
    x.picture(0);
    c.due("no PICTURE", x.phases(3, 0, -2), 0);
    x.back();
    c.due("back", x.phases(3, 0, -2), 1);
  }

  /** The PHASES of the HEAD are not asked for, and stay. */
  static void p39_whateverThePhasesAre(Check c) {
    DropPens x = throwing(5, 6);
    shares(x, 100, 0, 0);
    x.limit(100);
    x.phase(5, 2);
    x.phase(6, 2);
    int before = x.digest();
    best(c, x, 0, 1, 5, 0, 1);
    c.due("they stay", x.digest(), before);
    c.due("so they are SLOW", x.slow(3, 0), 2);
  }
}
