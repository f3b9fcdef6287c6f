/** The edges of promises 44 to 47: TOLLS, BOUND, PROVED, CLIMB. */
public final class TollEdgesTest {
  public static void main(String[] args) throws IllegalAccessException {
    Edges.run(TollEdgesTest.class);
  }

  /** These HOLES alone are open, and one PASS with no OFFSET is there. */
  private static DropPens only(int... holes) {
    DropPens x = new DropPens();
    for (int hole = 0; hole < 24; hole++) {
      x.shut(hole, true);
    }
    for (int hole : holes) {
      x.shut(hole, false);
    }
    x.pass(0);
    return x;
  }

  // ---- 44: toll ----

  /** "IndexOutOfBoundsException: no such ROW". */
  static void p44_rowsAre0To23(Check c) {
    Edges.within(c, 0, 23, Edges.NO_INDEX, (x, v) -> x.toll(v, 1));
  }

  /** "TOLLS of ROWS (0 to 50)". */
  static void p44_tollsAre0To50(Check c) {
    Edges.within(c, 0, 50, Edges.NONE_SUCH, (x, v) -> x.toll(5, v));
    DropPens x = new DropPens();
    c.due("at first", x.toll(5, 50), 0);
    c.due("the most", x.toll(5, 0), 50);
    c.due("the least", x.toll(5, 0), 0);
    c.due("another ROW", x.toll(6, 0), 0);
  }

  /** Of both exceptions the one that the face names first. */
  static void p44_noRowIsAheadOfNoToll(Check c) {
    Edges.refused(c, "ROW 24, TOLL 51", Edges.NO_INDEX, x -> x.toll(24, 51));
    Edges.refused(c, "ROW -1, TOLL -1", Edges.NO_INDEX, x -> x.toll(-1, -1));
  }

  // ---- 45: bound ----

  /** "no such COLUMN": NONE is none here. */
  static void p45_columnsAre0To15(Check c) {
    Edges.within(c, 0, 15, Edges.NO_INDEX, DropPens::bound);
  }

  /** "WORTH of a ROW: the less of its TOLL and MISS." */
  static void p45_tollBelowAtAndAboveMiss(Check c) {
    DropPens x = new DropPens();
    x.wish(16 * 5, 1);
    int[] tolls = {0, 1, 8, 9, 10, 50};
    int[] bounds = {0, 1, 8, 9, 9, 9};
    for (int i = 0; i < tolls.length; i++) {
      x.toll(5, tolls[i]);
      c.due("TOLL " + tolls[i] + ", MISS 9", x.bound(0), bounds[i]);
    }
    x.set(1, 50);
    c.due("TOLL 50, MISS 50", x.bound(0), 50);
    x.set(1, 1);
    c.due("TOLL 50, MISS 1", x.bound(0), 1);
  }

  /** "for all ROWS with UNITS that are REACH away at most from where it falls". */
  static void p45_reachAwayAndOneMore(Check c) {
    for (int reach = 0; reach <= 2; reach++) {
      for (int away = 0; away <= 3; away++) {
        DropPens x = only(10);
        x.set(0, reach);
        x.set(1, 50);
        x.wish(16 * (10 + away), 1);
        x.toll(10 + away, 50);
        c.due("REACH " + reach + ", below " + away, x.bound(0), away <= reach ? away * away : 50);
        DropPens y = only(10);
        y.set(0, reach);
        y.set(1, 50);
        y.wish(16 * (10 - away), 1);
        y.toll(10 - away, 50);
        c.due("REACH " + reach + ", above " + away, y.bound(0), away <= reach ? away * away : 50);
      }
    }
  }

  /** "the greatest of 0 and .. WORTH less the square of how far": never less than nothing is taken. */
  static void p45_nothingIsTakenBelow0(Check c) {
    DropPens x = only(10);
    x.set(0, 2);
    x.wish(16 * 12, 1);
    int[] bounds = {0, 1, 2, 3, 4, 4, 4};
    for (int toll = 0; toll < bounds.length; toll++) {
      x.toll(12, toll);
      c.due("TOLL " + toll + ", 2 away", x.bound(0), bounds[toll]);
    }
  }

  /** "ROWS with UNITS": a TOLL where nothing is WISHED counts neither way. */
  static void p45_rowsWithoutUnits(Check c) {
    DropPens x = only(10);
    x.toll(10, 9);
    c.due("no UNIT", x.bound(0), 0);
    x.wish(16 * 11, 1);
    x.toll(11, 3);
    c.due("the DROP takes 2 of ROW 11", x.bound(0), 3 - 2);
    x.wish(16 * 10, 1);
    c.due("and 9 of ROW 10, when that has a UNIT", x.bound(0), 9 + 3 - 9);
  }

  /** "for each DROP that can be thrown there": SHUT ones and those beside the PAPER take nothing. */
  static void p45_dropsThatCanBeThrown(Check c) {
    DropPens x = only(0);
    x.wish(0, 1);
    x.toll(0, 5);
    c.due("HOLE 0", x.bound(0), 0);
    x.pass(0);
    c.due("two DROPS", x.bound(0), -5);
    x.lean(0, -1);
    c.due("above the PAPER", x.bound(0), 5);
    x.lean(0, 0);
    x.shut(0, true);
    c.due("SHUT", x.bound(0), 5);
  }

  /** "(It is never above the cost of THE WAY.)": the most and the least of all. */
  static void p45_theMostAndTheLeast(Check c) {
    DropPens x = new DropPens();
    x.set(1, 50);
    Check.draw(x, "16c" + "/=".repeat(23));
    for (int row = 0; row < 24; row++) {
      x.toll(row, 50);
    }
    c.due("no DROPS", x.bound(7), 72 * 50);
    c.due("is the cost", x.cost(7), 72 * 50);
    for (int pass = 0; pass < 4; pass++) {
      x.pass(0);
    }
    c.due("96 DROPS", x.bound(7), (72 - 96) * 50);
  }

  // ---- 46: proved ----

  /** "no such COLUMN". */
  static void p46_columnsAre0To15(Check c) {
    Edges.within(c, 0, 15, Edges.NO_INDEX, (x, v) -> x.proved(v) ? 1 : 0);
  }

  /** "PROVED is a COLUMN, if BOUND is that cost." */
  static void p46_boundAsTheCostAndBelow(Check c) {
    DropPens x = new DropPens();
    c.due("nothing WISHED, 0 and 0", x.proved(3), true);
    x.wish(16 * 5 + 3, 1);
    x.toll(5, 8);
    c.due("8 and 9", x.proved(3), false);
    x.toll(5, 9);
    c.due("9 and 9", x.proved(3), true);
    x.toll(5, 50);
    c.due("9 and 9, by a greater TOLL", x.proved(3), true);
    x.pass(0);
    c.due("below 0, and 0", x.proved(3), false);
    x.toll(5, 1);
    c.due("0 and 0", x.proved(3), true);
    x.toll(5, 2);
    c.due("-2 and 0", x.proved(3), false);
  }

  // ---- 47: climb ----

  /** "no such COLUMN". */
  static void p47_columnsAre0To15(Check c) {
    Edges.within(c, 0, 15, Edges.NO_INDEX, DropPens::climb);
  }

  /** "that TOLL with which BOUND is greatest (of these the least)". */
  static void p47_theLeastOfTheGreatest(Check c) {
    DropPens x = new DropPens();
    x.wish(16 * 5, 1);
    x.toll(5, 50);
    c.due("no DROPS", x.climb(0), 9);
    c.due("9, not more", x.toll(5, 0), 9);
    DropPens y = only(5);
    y.wish(16 * 5, 1);
    y.toll(5, 50);
    c.due("one DROP for one UNIT: all are as good", y.climb(0), 0);
    c.due("0", y.toll(5, 0), 0);
    DropPens z = only(6);
    z.wish(16 * 5, 1);
    c.due("one DROP beside it", z.climb(0), 1);
    c.due("1", z.toll(5, 0), 1);
  }

  /** "ROW by ROW": a ROW without UNITS, too; all its TOLLS are as good, so 0 is taken. */
  static void p47_rowsWithoutUnits(Check c) {
    DropPens x = new DropPens();
    for (int row = 0; row < 24; row++) {
      x.toll(row, 50);
    }
    x.wish(16 * 5, 1);
    x.climb(1);
    for (int row = 0; row < 24; row++) {
      c.due("nothing WISHED in COLUMN 1, ROW " + row, x.toll(row, 50), 0);
    }
    x.climb(0);
    for (int row = 0; row < 24; row++) {
      c.due("COLUMN 0, ROW " + row, x.toll(row, 0), row == 5 ? 9 : 0);
    }
  }

  /** DROPS in the first ROW and in the last one, and such that reach them. */
  static void p47_theFirstRowAndTheLast(Check c) {
    for (int row = 0; row <= 23; row += 23) {
      DropPens x = only(row);
      x.wish(16 * row, 1);
      x.toll(row, 7);
      c.due("its own DROP", x.climb(0), 0);
      c.due("TOLL", x.toll(row, 0), 0);
      int beside = row == 0 ? 1 : 22;
      DropPens y = only(beside);
      y.wish(16 * row, 1);
      c.due("the DROP beside it", y.climb(0), 1);
      c.due("TOLL", y.toll(row, 0), 1);
      DropPens z = only(row);
      z.wish(16 * beside, 1);
      c.due("for the ROW beside it", z.climb(0), 1);
      c.due("TOLL", z.toll(beside, 0), 1);
    }
  }

  /**
   * Two UNITS in each of two ROWS, and one DROP that falls in either: the TOLL of each ROW is best at 1 more than the
   * other's, so both go up by 2 a round, to MISS.
   */
  private static DropPens race(int miss) {
    DropPens x = only(5, 6);
    x.set(1, miss);
    x.wish(16 * 5, 2);
    x.wish(16 * 6, 2);
    return x;
  }

  private static void climbed(Check c, DropPens x, int bound, int one, int other) {
    c.due("BOUND", x.climb(0), bound);
    c.due("it is so", x.bound(0), bound);
    c.due("ROW 5", x.toll(5, one), one);
    c.due("ROW 6", x.toll(6, other), other);
  }

  /** "again so, till a round changes no TOLL". */
  static void p47_tillNothingChanges(Check c) {
    DropPens x = race(1);
    climbed(c, x, 2, 1, 1);
    climbed(c, x, 2, 1, 1);
    DropPens y = race(7);
    climbed(c, y, 14, 7, 7);
    climbed(c, y, 14, 7, 7);
    c.due("PROVED", y.proved(0), true);
  }

  /** "10 rounds at most". */
  static void p47_tenRoundsAtMost(Check c) {
    DropPens x = race(19);
    climbed(c, x, 38, 19, 19);
    c.due("there in 10 rounds", x.proved(0), true);
    DropPens y = race(20);
    climbed(c, y, 39, 19, 20);
    c.due("not there in 10 rounds", y.proved(0), false);
    climbed(c, y, 40, 20, 20);
    c.due("there in 11", y.proved(0), true);
    DropPens z = race(50);
    climbed(c, z, 39, 19, 20);
    climbed(c, z, 79, 39, 40);
    climbed(c, z, 100, 50, 50);
    c.due("there at last", z.proved(0), true);
  }

  /** To CLIMB begins where the TOLLS stand, and may bring them down. */
  static void p47_fromWhereTheTollsStand(Check c) {
    DropPens x = race(50);
    x.toll(6, 31);
    // ROW 5 goes to 32, then ROW 6 to 33: ten rounds of 2 end at MISS
    climbed(c, x, 100, 50, 50);
    x.shut(4, false);
    x.shut(7, false);
    // two DROPS more, 1 away from either: no UNIT is MISSING, and 2 is the cost
    c.due("cost", x.cost(0), 2);
    c.due("down again", x.climb(0), 2);
    c.due("PROVED", x.proved(0), true);
  }
}
