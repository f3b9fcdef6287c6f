/** The edges of promises 12 to 14: THE WAY, its cost, what is given. */
public final class DealEdgesTest {
  public static void main(String[] args) throws IllegalAccessException {
    Edges.run(DealEdgesTest.class);
  }

  /** These HOLES alone are open, and one PASS with no OFFSET is there. */
  private static DropPens only(int... holes) {
    DropPens x = new DropPens();
    for (int hole = 0; hole < 24; hole++) {
      x.shut(hole, true);
    }
    for (int hole : holes) {
      x.shut(hole, false);
    }
    x.pass(0);
    return x;
  }

  private static void wishes(DropPens x, int column, int... rows) {
    for (int row : rows) {
      x.wish(16 * row + column, x.wished(16 * row + column) + 1);
    }
  }

  // ---- 12: cost ----

  /** "NONE as COLUMN: of all together. IndexOutOfBoundsException: no such COLUMN". */
  static void p12_columnsAre0To15AndNone(Check c) {
    Edges.within(c, -1, 15, Edges.NO_INDEX, DropPens::cost);
    DropPens x = new DropPens();
    wishes(x, 0, 3);
    wishes(x, 15, 4, 4);
    c.due("COLUMN 0", x.cost(0), 9);
    c.due("COLUMN 1", x.cost(1), 0);
    c.due("COLUMN 15", x.cost(15), 18);
    c.due("all", x.cost(DropPens.NONE), 27);
  }

  /** Nothing WISHED costs nothing; all WISHED without a DROP costs MISS each. */
  static void p12_noUnitsAndAllUnits(Check c) {
    DropPens x = new DropPens();
    x.set(1, 50);
    x.pass(0);
    c.due("no UNITS", x.cost(-1), 0);
    x.clear();
    Check.draw(x, "16c" + "/=".repeat(23));
    c.due("72 UNITS in a COLUMN, no DROPS", x.cost(0), 72 * 50);
    c.due("1,152 UNITS, no DROPS", x.cost(-1), 1152 * 50);
    for (int pass = 0; pass < 3; pass++) {
      x.pass(0);
      c.due("a DROP more for each ROW", x.cost(-1), (2 - pass) * 384 * 50);
    }
    x.pass(0);
    c.due("DROPS to spare", x.cost(-1), 0);
  }

  /** "a DROP to a UNIT of a ROW that is REACH away at most: costs that square". */
  static void p12_reachAwayAndOneMore(Check c) {
    for (int reach = 0; reach <= 2; reach++) {
      for (int way = -1; way <= 1; way += 2) {
        DropPens x = only(10);
        x.set(0, reach);
        x.set(1, 50);
        wishes(x, 5, 10 + way * reach);
        c.due("REACH " + reach + " away", x.cost(5), reach * reach);
        c.due("is given", x.given(5, 0, 10), 10 + way * reach);
        DropPens y = only(10);
        y.set(0, reach);
        y.set(1, 50);
        wishes(y, 5, 10 + way * (reach + 1));
        c.due("one more than " + reach + " away", y.cost(5), 50);
        c.due("is not given", y.given(5, 0, 10), -1);
      }
    }
  }

  /** "each UNIT without DROP costs MISS"; of ways of one cost "given to no UNIT is ahead". */
  static void p12_missAsDearAsTheSquare(Check c) {
    for (int away = 1; away <= 2; away++) {
      DropPens x = only(10);
      x.set(0, 2);
      wishes(x, 5, 10 + away);
      x.set(1, away * away);
      c.due("as dear", x.cost(5), away * away);
      c.due("then it is MISSING", x.way(5, 2), 1);
      c.due("and none is given", x.given(5, 0, 10), -1);
      x.set(1, away * away + 1);
      c.due("dearer", x.cost(5), away * away);
      c.due("then it is not MISSING", x.way(5, 2), 0);
      c.due("and one is given", x.given(5, 0, 10), 10 + away);
    }
    DropPens y = only(10);
    y.set(1, 1);
    wishes(y, 5, 10);
    c.due("the least MISS, its own ROW", y.cost(5), 0);
  }

  /** "gives some DROPS to UNITS, one each". */
  static void p12_oneEach(Check c) {
    DropPens x = only(10);
    wishes(x, 5, 10);
    c.due("one UNIT", x.cost(5), 0);
    wishes(x, 5, 10);
    c.due("two UNITS", x.cost(5), 9);
    x.shut(11, false);
    c.due("another DROP", x.cost(5), 1);
    c.due("two are given", x.way(5, 0), 2);
    x.shut(9, false);
    c.due("a third DROP is not", x.way(5, 0), 2);
  }

  /** UNITS ahead of all that DROPS reach, between them and behind them are MISSING. */
  static void p12_unitsThatNoDropReaches(Check c) {
    DropPens x = only(10, 15);
    wishes(x, 5, 0, 1, 8);
    c.due("ahead", x.cost(5), 27);
    wishes(x, 5, 10, 15);
    c.due("two that are reached", x.cost(5), 27);
    wishes(x, 5, 12, 13);
    c.due("between", x.cost(5), 45);
    wishes(x, 5, 17, 23);
    c.due("behind", x.cost(5), 63);
    c.due("given", x.way(5, 0), 2);
    c.due("MISSING", x.way(5, 2), 7);
    c.due("its own ROW", x.given(5, 0, 10), 10);
    c.due("and the other's", x.given(5, 0, 15), 15);
  }

  /** ROWS 0 and 23 have neighbours on one side alone. */
  static void p12_theFirstRowAndTheLast(Check c) {
    DropPens x = only(1, 22);
    wishes(x, 0, 0, 23);
    c.due("1 away", x.cost(0), 2);
    DropPens y = only(2, 21);
    wishes(y, 0, 0, 23);
    c.due("2 away", y.cost(0), 18);
    y.set(0, 2);
    c.due("2 away, with REACH 2", y.cost(0), 8);
    // the last ROW and the first of the next COLUMN lie side by side as CELLS, not as ROWS
    DropPens z = only(23);
    wishes(z, 1, 0);
    c.due("no way round", z.cost(1), 9);
  }

  // ---- 13: given ----

  /** "no such COLUMN": NONE is none here. */
  static void p13_columnsAre0To15(Check c) {
    Edges.within(c, 0, 15, Edges.NO_INDEX, (x, v) -> x.given(v, 0, 0));
  }

  /** "no such HOLE (so below)". */
  static void p13_holesAre0To23(Check c) {
    Edges.within(c, 0, 23, Edges.NO_INDEX, (x, v) -> x.given(0, 0, v));
  }

  /** "NoSuchElementException: no such PASS." */
  static void p13_passesThatThereAre(Check c) {
    Edges.within(c, 0, 2, Edges.NO_ELEMENT, (x, v) -> x.given(0, v, 0));
    DropPens x = new DropPens();
    for (int many = 0; many <= 4; many++) {
      int behind = many;
      c.noPass("PASS " + many, () -> x.given(0, behind, 0));
      if (many > 0) {
        c.taken("PASS " + (many - 1), () -> x.given(0, behind - 1, 0));
      }
      x.pass(0);
    }
    x.clear();
    c.noPass("all gone", () -> x.given(0, 0, 0));
  }

  /** Of both exceptions the one that the face names first. */
  static void p13_noIndexIsAheadOfNoPass(Check c) {
    Edges.refused(c, "COLUMN 16, PASS 3", Edges.NO_INDEX, x -> x.given(16, 3, 0));
    Edges.refused(c, "COLUMN -1, PASS -1", Edges.NO_INDEX, x -> x.given(-1, -1, 0));
    Edges.refused(c, "HOLE 24, PASS 3", Edges.NO_INDEX, x -> x.given(0, 3, 24));
    Edges.refused(c, "HOLE -1, PASS -1", Edges.NO_INDEX, x -> x.given(0, -1, -1));
  }

  /** "NONE: to none, or it can't be thrown". */
  static void p13_noneIfItCantBeThrown(Check c) {
    DropPens x = new DropPens();
    x.pass(-1);
    wishes(x, 0, 0, 4, 23);
    c.due("HOLE 0 falls above the PAPER", x.given(0, 0, 0), -1);
    c.due("HOLE 1 falls in ROW 0", x.given(0, 0, 1), 0);
    c.due("HOLE 5 falls in ROW 4", x.given(0, 0, 5), 4);
    c.due("HOLE 6 is given to none", x.given(0, 0, 6), -1);
    c.due("HOLE 23 hides ROW 23", x.given(0, 0, 23), 23);
    x.shut(5, true);
    c.due("HOLE 5 is SHUT", x.given(0, 0, 5), -1);
    c.due("HOLE 6 hides it", x.given(0, 0, 6), 4);
  }

  /** "in order (a later DROP to a later UNIT)". */
  static void p13_aLaterDropToALaterUnit(Check c) {
    // both fall in ROW 10, HOLE 9 first; crossed ways would cost the same
    DropPens x = only(9, 11);
    x.lean(9, 1);
    x.lean(11, -1);
    wishes(x, 2, 9, 11);
    c.due("cost", x.cost(2), 2);
    c.due("the first DROP", x.given(2, 0, 9), 9);
    c.due("the later DROP", x.given(2, 0, 11), 11);
  }

  /** "of these the first: DROP by DROP: given to no UNIT is ahead". */
  static void p13_givenToNoneIsAhead(Check c) {
    DropPens x = only(9, 11);
    wishes(x, 2, 10);
    c.due("the first DROP", x.given(2, 0, 9), -1);
    c.due("the later DROP", x.given(2, 0, 11), 10);
    x.shut(11, true);
    c.due("the first DROP alone", x.given(2, 0, 9), 10);
  }

  /** "else the least UNIT". */
  static void p13_theLeastUnit(Check c) {
    DropPens x = only(10);
    wishes(x, 2, 9, 11);
    c.due("cost", x.cost(2), 10);
    c.due("above, not below", x.given(2, 0, 10), 9);
    wishes(x, 2, 10);
    c.due("its own ROW costs less", x.given(2, 0, 10), 10);
  }

  /** "DROPS .. by ROWS in which they fall, of one ROW by PASSES, then by HOLES". */
  static void p13_dropsByRowsPassesHoles(Check c) {
    DropPens x = only(9, 10);
    x.lean(9, 1);
    wishes(x, 2, 10);
    c.due("one ROW and PASS: HOLE 9 is first, so it has none", x.given(2, 0, 9), -1);
    c.due("HOLE 10", x.given(2, 0, 10), 10);
    x.pass(0);
    c.due("PASS 0 is first, so it has none", x.given(2, 0, 10), -1);
    c.due("PASS 1, HOLE 9", x.given(2, 1, 9), -1);
    c.due("PASS 1, HOLE 10", x.given(2, 1, 10), 10);
    // HOLE 12 falls in ROW 9, ahead of all others though its number is greater
    DropPens y = only(11, 12);
    y.clear();
    y.pass(-1);
    y.lean(12, -2);
    wishes(y, 2, 9, 10);
    c.due("ROW 9 by HOLE 12", y.given(2, 0, 12), 9);
    c.due("ROW 10 by HOLE 11", y.given(2, 0, 11), 10);
  }

  // ---- 14: way ----

  /** "NONE as COLUMN: of all." */
  static void p14_columnsAre0To15AndNone(Check c) {
    Edges.within(c, -1, 15, Edges.NO_INDEX, (x, v) -> x.way(v, 0));
  }

  /** "IllegalArgumentException: another what." */
  static void p14_whatIs0To3(Check c) {
    Edges.within(c, 0, 3, Edges.NONE_SUCH, (x, v) -> x.way(0, v));
    Edges.within(c, 0, 3, Edges.NONE_SUCH, (x, v) -> x.way(-1, v));
  }

  /** Of both exceptions the one that the face names first. */
  static void p14_noColumnIsAheadOfNoWhat(Check c) {
    Edges.refused(c, "COLUMN 16, what 4", Edges.NO_INDEX, x -> x.way(16, 4));
    Edges.refused(c, "COLUMN -2, what -1", Edges.NO_INDEX, x -> x.way(-2, -1));
  }

  private static void ways(Check c, DropPens x, int column, int given, int hidden, int missing, int thrown) {
    c.due("given", x.way(column, 0), given);
    c.due("HIDDEN", x.way(column, 1), hidden);
    c.due("MISSING", x.way(column, 2), missing);
    c.due("can be thrown", x.way(column, 3), thrown);
  }

  /** No DROPS, and as many as there can be. */
  static void p14_noDropsAndAllDrops(Check c) {
    DropPens x = new DropPens();
    ways(c, x, 0, 0, 0, 0, 0);
    Check.draw(x, "16c" + "/=".repeat(23));
    ways(c, x, -1, 0, 0, 1152, 0);
    for (int pass = 0; pass < 4; pass++) {
      x.pass(0);
    }
    ways(c, x, 0, 72, 0, 0, 96);
    ways(c, x, -1, 1152, 0, 0, 1536);
    x.picture(0);
    ways(c, x, -1, 0, 0, 0, 1536);
  }

  /** "HIDDEN is a UNIT that has a DROP of another ROW; MISSING one without." */
  static void p14_hiddenAndMissing(Check c) {
    DropPens x = only(10);
    wishes(x, 5, 10);
    ways(c, x, 5, 1, 0, 0, 1);
    x.lean(10, 1);
    ways(c, x, 5, 1, 1, 0, 1);
    x.lean(10, 2);
    ways(c, x, 5, 0, 0, 1, 1);
    x.set(0, 2);
    ways(c, x, 5, 1, 1, 0, 1);
    x.shut(10, true);
    ways(c, x, 5, 0, 0, 1, 0);
  }
}
