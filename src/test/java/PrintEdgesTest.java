/** The edges of promises 15 to 21: ink, prints, DOTS, what WAITED, SPIT. */
public final class PrintEdgesTest {
  public static void main(String[] args) throws IllegalAccessException {
    Edges.run(PrintEdgesTest.class);
  }

  /** One PASS over PAPER on which DROPS are given in their own ROWS alone. */
  private static DropPens straight() {
    DropPens x = new DropPens();
    x.set(0, 0);
    x.pass(0);
    return x;
  }

  private static void inks(Check c, DropPens x, int... want) {
    for (int what = 0; what < 5; what++) {
      c.due("INK " + what, x.ink(what), want[what]);
    }
  }

  /** A TANK with all that it holds. */
  private static DropPens full() {
    DropPens x = new DropPens();
    for (int i = 0; i < 10; i++) {
      x.fill(100000);
    }
    return x;
  }

  // ---- 15: fill ----

  /** "IllegalArgumentException: it is not 0 to 100,000". */
  static void p15_dropsAre0To100000(Check c) {
    Edges.within(c, 0, 100000, Edges.NONE_SUCH, DropPens::fill);
    DropPens x = new DropPens();
    c.due("nothing", x.fill(0), 0);
    c.due("the most", x.fill(100000), 100000);
    inks(c, x, 100000, 100000, 0, 0, 0);
  }

  /** "IllegalStateException: it would have more than 1,000,000." */
  static void p15_theTankHolds1000000(Check c) {
    DropPens x = full();
    inks(c, x, 1000000, 1000000, 0, 0, 0);
    c.due("nothing more can be filled in", x.fill(0), 1000000);
    c.noState("one more can't", () -> x.fill(1));
    c.noState("100,000 more can't", () -> x.fill(100000));
    inks(c, x, 1000000, 1000000, 0, 0, 0);
    x.spit();
    c.noState("25 where 24 left", () -> x.fill(25));
    inks(c, x, 1000000, 999976, 0, 24, 0);
    c.due("24 where 24 left", x.fill(24), 1000000);
    inks(c, x, 1000024, 1000000, 0, 24, 0);
  }

  /** A fill that is refused for the TANK's sake leaves all as it is. */
  static void p15_aRefusedFillFillsNothing(Check c) {
    DropPens x = full();
    DropPens y = full();
    c.noState("one more", () -> x.fill(1));
    c.same("all", Edges.everything(x), Edges.everything(y));
  }

  /** Of both exceptions the one that the face names first. */
  static void p15_noneSuchIsAheadOfTheFullTank(Check c) {
    DropPens x = full();
    c.noneSuch("100,001", () -> x.fill(100001));
    c.noneSuch("-1", () -> x.fill(-1));
  }

  // ---- 16: print ----

  /** "TANK must have as many drops of ink as DROPS are given in all COLUMNS (else nothing is printed)". */
  static void p16_justEnoughAndOneTooLittle(Check c) {
    DropPens x = straight();
    Check.draw(x, "ab/c");
    x.fill(2);
    c.due("three are given", x.way(-1, 0), 3);
    c.due("one too little", x.print(), -1);
    x.fill(1);
    c.due("just enough", x.print(), 3);
    inks(c, x, 3, 0, 3, 0, 0);
    c.due("nothing left", x.print(), -1);
  }

  /** "-1, and nothing is printed". */
  static void p16_aRefusedPrintPrintsNothing(Check c) {
    Edges.idle(c, "too little", x -> {
      // all ink but a few drops is spat away
      while (x.spit() > 0) {
        continue;
      }
      x.picture(0);
      return Check.draw(x, "16c/16c/16c/16c");
    }, DropPens::print, -1);
  }

  /** No DROP is given: an empty TANK is enough. */
  static void p16_nothingGivenNeedsNoInk(Check c) {
    DropPens x = new DropPens();
    c.due("no PASS, no PICTURE", x.print(), 0);
    x.pass(0);
    c.due("no PICTURE", x.print(), 0);
    x.clear();
    x.wish(0, 3);
    c.due("no PASS", x.print(), 0);
    x.pass(24);
    c.due("no DROP on the PAPER", x.print(), 0);
    x.clear();
    x.pass(0);
    c.due("one is given", x.print(), -1);
    c.due("four were printed", x.count(2), 4);
  }

  /** "if it WAITED longer than DRIES, it is LOST (spilt), else it lies". */
  static void p16_waitedAsLongAsDriesAndLonger(Check c) {
    for (int dries : new int[] {1, 2, 14}) {
      DropPens x = straight();
      x.set(2, dries);
      x.fill(2);
      x.wish(dries, 1);
      c.due("WAITED " + dries + " lies", x.print(), 1);
      c.due("a DOT", x.dots(dries), 1);
      inks(c, x, 2, 1, 1, 0, 0);
      DropPens y = straight();
      y.set(2, dries);
      y.fill(2);
      y.wish(dries + 1, 1);
      c.due("WAITED one longer than " + dries + " is LOST", y.print(), 0);
      c.due("no DOT", y.dots(dries + 1), 0);
      inks(c, y, 2, 1, 0, 1, 0);
    }
  }

  /** "DRIES (1 to 1,000)", "1,000 at most": what WAITED 1,000 lies with DRIES 1,000, and is LOST with 999. */
  static void p16_driesAtItsMost(Check c) {
    for (int dries = 999; dries <= 1000; dries++) {
      DropPens x = straight();
      x.set(2, dries);
      x.fill(1);
      for (int print = 0; print < 63; print++) {
        x.print();
      }
      c.due("WAITED", x.waited(5), 1000);
      x.wish(16 * 5, 1);
      c.due("with " + dries, x.print(), dries - 999);
      c.due("WAITED since", x.waited(5), 15);
    }
  }

  /** "WAITED is 0 then": behind a DROP that is LOST, too. */
  static void p16_aLostDropWetsTheHole(Check c) {
    DropPens x = straight();
    x.set(2, 1);
    x.fill(3);
    Check.draw(x, "3.3a");
    c.due("the first is LOST, two lie", x.print(), 2);
    c.due("LOST", x.dots(3), 0);
    c.due("lies", x.dots(4), 1);
    c.due("lies", x.dots(5), 1);
    c.due("WAITED since", x.waited(0), 10);
  }

  /** A DROP that will be LOST takes ink, so the TANK must have it. */
  static void p16_lostDropsNeedInk(Check c) {
    DropPens x = straight();
    x.set(2, 1);
    x.wish(10, 1);
    c.due("no ink", x.print(), -1);
    x.fill(1);
    c.due("it is LOST", x.print(), 0);
    inks(c, x, 1, 0, 0, 1, 0);
  }

  /** "PASS by PASS, COLUMN by COLUMN": what it WAITED goes on from one PASS to the next. */
  static void p16_passByPassColumnByColumn(Check c) {
    DropPens x = new DropPens();
    x.set(0, 0);
    x.set(2, 15);
    x.fill(4);
    x.pass(0);
    x.pass(0);
    x.lean(0, 1);
    x.shut(1, true);
    // two DROPS of HOLE 0 fall in ROW 1, of PASSES 0 and 1: the later one is given
    x.wish(16 + 0, 1);
    c.due("of PASS 1", x.given(0, 1, 0), 1);
    c.due("WAITED 16 in PASS 0", x.print(), 0);
    x.set(2, 31);
    c.due("WAITED 15 and 16", x.print(), 1);
    c.due("WAITED since", x.waited(0), 15);
  }

  /** "goes on from print to print". */
  static void p16_fromPrintToPrint(Check c) {
    DropPens x = straight();
    x.fill(2);
    x.print();
    x.wish(4, 1);
    c.due("WAITED 16 and 4: as long as DRIES", x.print(), 1);
    c.due("WAITED since", x.waited(0), 11);
    x.wish(4, 0);
    x.wish(10, 1);
    c.due("WAITED 11 and 10: longer", x.print(), 0);
  }

  // ---- 17: dots ----

  /** "IndexOutOfBoundsException" for no such CELL. */
  static void p17_cellsAre0To383(Check c) {
    Edges.within(c, 0, 383, Edges.NO_INDEX, DropPens::dots);
    DropPens x = straight();
    x.fill(2);
    x.wish(0, 1);
    x.wish(383, 1);
    x.print();
    c.due("the first CELL", x.dots(0), 1);
    c.due("the last CELL", x.dots(383), 1);
    c.due("beside the first", x.dots(1) + x.dots(16), 0);
    c.due("beside the last", x.dots(382) + x.dots(367), 0);
  }

  /** "DOTS are of the latest print". */
  static void p17_dotsOfTheLatestPrint(Check c) {
    DropPens x = straight();
    x.fill(1);
    x.wish(7, 1);
    c.due("none yet", x.dots(7), 0);
    x.print();
    c.due("printed", x.dots(7), 1);
    c.due("refused", x.print(), -1);
    c.due("stays", x.dots(7), 1);
    x.wish(7, 0);
    c.due("WISHED otherwise, stays", x.dots(7), 1);
    c.due("printed without it", x.print(), 0);
    c.due("gone", x.dots(7), 0);
  }

  /** "it lies in its CELL, where it fell". */
  static void p17_dotsLieWhereTheyFell(Check c) {
    DropPens x = new DropPens();
    x.pass(0);
    x.shut(0, true);
    x.shut(23, true);
    x.wish(0, 1);
    x.wish(16 * 23, 1);
    x.fill(2);
    c.due("two lie", x.print(), 2);
    c.due("ROW 0", x.dots(0), 0);
    c.due("ROW 1", x.dots(16), 1);
    c.due("ROW 22", x.dots(16 * 22), 1);
    c.due("ROW 23", x.dots(16 * 23), 0);
  }

  /** Of five ROWS all UNITS may be hidden by DROPS that fall in one CELL. */
  static void p17_15DotsInACell(Check c) {
    DropPens x = new DropPens();
    x.set(0, 2);
    x.set(1, 50);
    for (int hole = 0; hole < 24; hole++) {
      x.lean(hole, hole >= 8 && hole <= 12 ? 10 - hole : 0);
      x.shut(hole, hole < 8 || hole > 12);
    }
    for (int pass = 0; pass < 4; pass++) {
      x.pass(0);
    }
    for (int row = 8; row <= 12; row++) {
      x.wish(16 * row, 3);
    }
    x.fill(15);
    c.due("20 can be thrown", x.way(0, 3), 20);
    c.due("15 lie", x.print(), 15);
    c.due("all in one CELL", x.dots(16 * 10), 15);
    c.due("wrong CELLS", x.wrong(), 5);
  }

  // ---- 18: wrong ----

  /** "In how many CELLS DOTS are not as WISHED": in none, in all. */
  static void p18_noneAndAll(Check c) {
    DropPens x = new DropPens();
    c.due("nothing WISHED, nothing printed", x.wrong(), 0);
    Check.draw(x, "16a" + "/=".repeat(23));
    c.due("all WISHED, nothing printed", x.wrong(), 384);
    x.pass(0);
    x.fill(384);
    c.due("all lie", x.print(), 384);
    c.due("as WISHED", x.wrong(), 0);
    Check.draw(x, "16b" + "/=".repeat(23));
    c.due("one more WISHED in each", x.wrong(), 384);
    x.picture(0);
    c.due("none WISHED", x.wrong(), 384);
    x.wish(383, 1);
    c.due("one CELL is as WISHED", x.wrong(), 383);
  }

  // ---- 19: waited ----

  /** "IndexOutOfBoundsException" for no such HOLE. */
  static void p19_holesAre0To23(Check c) {
    Edges.within(c, 0, 23, Edges.NO_INDEX, DropPens::waited);
  }

  /** "WAITED is 1 more (1,000 at most)". */
  static void p19_999And1000AndNoMore(Check c) {
    for (int column = 7; column <= 8; column++) {
      DropPens x = straight();
      x.fill(1);
      x.wish(16 * 5 + column, 1);
      x.print();
      x.wish(16 * 5 + column, 0);
      c.due("since its COLUMN", x.waited(5), 15 - column);
      for (int print = 0; print < 62; print++) {
        x.print();
      }
      c.due("62 prints more", x.waited(5), 15 - column + 62 * 16);
      x.print();
      c.due("63 prints more", x.waited(5), 1000);
      x.print();
      c.due("64 prints more", x.waited(5), 1000);
    }
  }

  /** "SHUT ones, too"; and those that fall beside the PAPER. */
  static void p19_shutHolesWaitToo(Check c) {
    DropPens x = new DropPens();
    x.pass(-24);
    x.pass(0);
    x.shut(3, true);
    x.print();
    c.due("SHUT", x.waited(3), 32);
    c.due("open", x.waited(2), 32);
    for (int print = 0; print < 32; print++) {
      x.print();
    }
    c.due("SHUT, 1,000 at most", x.waited(3), 1000);
  }

  /** Without PASSES no HOLE comes by, so none waits. */
  static void p19_noPassNoWaiting(Check c) {
    DropPens x = new DropPens();
    x.print();
    c.due("no PASS", x.waited(0), 0);
    x.pass(0);
    x.print();
    c.due("a PASS of 16 COLUMNS", x.waited(0), 16);
    x.wish(15, 1);
    x.fill(1);
    x.print();
    c.due("given in the last COLUMN", x.waited(0), 0);
  }

  // ---- 20: spit ----

  /** "each HOLE that is not SHUT throws one drop beside (spilt), WAITED is 0; the TANK must have as many". */
  static void p20_justEnoughAndOneTooLittle(Check c) {
    DropPens x = straight();
    x.print();
    x.fill(23);
    c.due("one too little", x.spit(), -1);
    c.due("they wait on", x.waited(0), 16);
    inks(c, x, 23, 23, 0, 0, 0);
    x.fill(1);
    c.due("just enough", x.spit(), 24);
    c.due("none WAITED", x.waited(0) + x.waited(23), 0);
    inks(c, x, 24, 0, 0, 24, 0);
    c.due("nothing left", x.spit(), -1);
  }

  /** "-1, doing nothing: the TANK has too little." */
  static void p20_aRefusedSpitDoesNothing(Check c) {
    Edges.idle(c, "too little", x -> {
      while (x.spit() > 0) {
        continue;
      }
      return x.print();
    }, DropPens::spit, -1);
  }

  /** All are SHUT: nothing is thrown, an empty TANK is enough, and they wait on. */
  static void p20_allShutNeedNoInk(Check c) {
    DropPens x = straight();
    x.print();
    for (int hole = 0; hole < 23; hole++) {
      x.shut(hole, true);
    }
    c.due("one is open, no ink", x.spit(), -1);
    x.shut(23, true);
    c.due("none is open", x.spit(), 0);
    c.due("they wait on", x.waited(23), 16);
    x.shut(23, false);
    x.fill(1);
    c.due("one is open, one drop", x.spit(), 1);
    c.due("it WAITED no more", x.waited(23), 0);
    c.due("SHUT ones wait on", x.waited(22), 16);
  }

  // ---- 21: ink ----

  /** "IllegalArgumentException: another what." */
  static void p21_whatIs0To4(Check c) {
    Edges.within(c, 0, 4, Edges.NONE_SUCH, DropPens::ink);
  }

  /** "every drop of ink .. led": what was filled in is in the TANK, on PAPER, spilt or cleaned off. */
  static void p21_noDropIsLostFromTheBooks(Check c) {
    DropPens x = straight();
    x.set(2, 1);
    Check.draw(x, "a2.a/.a");
    x.fill(100);
    x.print();
    inks(c, x, 100, 97, 2, 1, 0);
    x.spit();
    inks(c, x, 100, 73, 2, 25, 0);
    x.bad(0, 8);
    x.clean(1);
    inks(c, x, 100, 64, 2, 25, 9);
    x.print();
    inks(c, x, 100, 61, 4, 26, 9);
  }

  /** "on PAPER (of all prints)". */
  static void p21_onPaperOfAllPrints(Check c) {
    DropPens x = straight();
    x.wish(0, 1);
    x.fill(3);
    for (int print = 1; print <= 3; print++) {
      x.print();
      c.due("on PAPER", x.ink(2), print);
      c.due("DOTS", x.dots(0), 1);
    }
  }
}
