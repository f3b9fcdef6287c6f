/** The edges of promises 30 to 32: NEW by DAYS, the PLAN, CLEANED. */
public final class CleanEdgesTest {
  public static void main(String[] args) throws IllegalAccessException {
    Edges.run(CleanEdgesTest.class);
  }

  private static void cleaning(DropPens x, int wipe, int flush, int price) {
    x.set(3, wipe);
    x.set(4, flush);
    x.set(5, price);
  }

  private static void days(DropPens x, int... fresh) {
    for (int day = 0; day < 10; day++) {
      x.bad(day, day < fresh.length ? fresh[day] : 0);
    }
  }

  /** The cost, the INK together, then what is done DAY by DAY. */
  private static void planned(Check c, DropPens x, int cost, int ink, int... done) {
    c.due("cost", x.plan(done.length, -1), cost);
    c.due("INK", x.plan(done.length, -2), ink);
    for (int day = 0; day < done.length; day++) {
      c.due("DAY " + day, x.plan(done.length, day), done[day]);
    }
  }

  // ---- 30: bad ----

  /** "NEW of a DAY (0 to 9)". */
  static void p30_daysAre0To9(Check c) {
    Edges.within(c, 0, 9, Edges.NONE_SUCH, (x, v) -> x.bad(v, 1));
  }

  /** "NEW, 0 to 8 by DAYS". */
  static void p30_newIs0To8(Check c) {
    Edges.within(c, 0, 8, Edges.NONE_SUCH, (x, v) -> x.bad(9, v));
    DropPens x = new DropPens();
    c.due("at first", x.bad(9, 8), 0);
    c.due("the most", x.bad(9, 0), 8);
    c.due("the least", x.bad(9, 0), 0);
    c.due("another DAY", x.bad(8, 0), 0);
  }

  // ---- 31: plan ----

  /** "CLEANING over DAYS (1 to 10)"; "IllegalArgumentException: n". */
  static void p31_nIs1To10(Check c) {
    Edges.within(c, 1, 10, Edges.NONE_SUCH, (x, v) -> x.plan(v, -1));
  }

  /** "or what is not -2 to 9". */
  static void p31_whatIsMinus2To9(Check c) {
    Edges.within(c, -2, 9, Edges.NONE_SUCH, (x, v) -> x.plan(10, v));
    Edges.within(c, -2, 9, Edges.NONE_SUCH, (x, v) -> x.plan(1, v));
  }

  /** "NONE: no such DAY in it." */
  static void p31_noSuchDayInIt(Check c) {
    DropPens x = new DropPens();
    for (int n = 1; n <= 10; n++) {
      for (int day = 0; day < 10; day++) {
        c.due("DAY " + day + " of " + n, x.plan(n, day), day < n ? 0 : DropPens.NONE);
      }
    }
  }

  /** "24 at most are bad". */
  static void p31_24AtMostAreBad(Check c) {
    DropPens x = new DropPens();
    cleaning(x, 100, 100, 1);
    days(x, 8, 8, 8, 8);
    planned(c, x, 8 + 16 + 24, 0, 0, 0, 0);
    planned(c, x, 8 + 16 + 24 + 24, 0, 0, 0, 0, 0);
    days(x, 8, 8, 7, 2);
    planned(c, x, 8 + 16 + 23 + 24, 0, 0, 0, 0, 0);
    days(x, 8, 8, 7, 1);
    planned(c, x, 8 + 16 + 23 + 24, 0, 0, 0, 0, 0);
    // what is too many as the DAY begins is gone ahead of the WIPE: 22 stay, not 30
    cleaning(x, 0, 100, 1);
    days(x, 8, 8, 8, 8, 8, 8);
    planned(c, x, 6 + 12 + 18 + 22 + 22 + 22, 0, 1, 1, 1, 1, 1, 1);
  }

  /** "WIPE (2 fewer": none is not fewer still. */
  static void p31_wipeOfNoneOneTwoAndThree(Check c) {
    int[] cost = {0, 2, 2, 5};
    for (int bad = 0; bad <= 3; bad++) {
      DropPens x = new DropPens();
      x.set(4, 100);
      days(x, bad);
      planned(c, x, cost[bad], bad == 0 ? 0 : 2, bad == 0 ? 0 : 1);
      // one who has none left needs nothing on the DAY behind it
      c.due("two DAYS of " + bad, x.plan(2, -1), bad < 3 ? cost[bad] : 7);
    }
  }

  /** "FLUSH (none is bad, costs its INK)". */
  static void p31_flushOfAll(Check c) {
    DropPens x = new DropPens();
    cleaning(x, 100, 100, 5);
    days(x, 8, 8, 8);
    // 40, 80, 120 without: a FLUSH on DAY 1 saves 80 there and 80 on DAY 2
    planned(c, x, 40 + 100 + 40, 100, 0, 2, 0);
  }

  /** "INK of WIPE and FLUSH: 0 to 100", "PRICE 0 to 100": the most of all. */
  static void p31_theDearestCleaning(Check c) {
    DropPens x = new DropPens();
    cleaning(x, 100, 100, 100);
    days(x, 8, 8, 8, 8, 8, 8, 8, 8, 8, 8);
    planned(c, x, 1000, 1000, 2, 2, 2, 2, 2, 2, 2, 2, 2, 2);
    cleaning(x, 100, 100, 1);
    x.bad(0, 1);
    c.due("one DAY, one bad", x.plan(1, -1), 1);
  }

  /** INK 0 and PRICE 0: what costs nothing. */
  static void p31_theCheapestCleaning(Check c) {
    DropPens x = new DropPens();
    cleaning(x, 100, 100, 0);
    days(x, 8, 8, 8);
    planned(c, x, 0, 0, 0, 0, 0);
    cleaning(x, 0, 0, 100);
    planned(c, x, 0, 0, 2, 2, 2);
    cleaning(x, 0, 0, 0);
    planned(c, x, 0, 0, 0, 0, 0);
  }

  /** "of these the first (DAY by DAY nothing, WIPE, FLUSH)". */
  static void p31_ofTheseTheFirst(Check c) {
    DropPens x = new DropPens();
    days(x, 2);
    cleaning(x, 6, 6, 3);
    planned(c, x, 6, 0, 0);
    cleaning(x, 5, 5, 3);
    planned(c, x, 5, 5, 1);
    cleaning(x, 6, 5, 3);
    planned(c, x, 5, 5, 2);
    // a WIPE on either DAY, or on both, costs 6: that with nothing on DAY 0 is ahead
    days(x, 1, 1);
    cleaning(x, 3, 3, 3);
    planned(c, x, 6, 3, 0, 1);
    // one that is bad from DAY 0 on is wiped at once, not on DAY 1
    days(x, 1, 0);
    planned(c, x, 3, 3, 1, 0);
  }

  // ---- 32: clean ----

  /** "IllegalArgumentException" for n. */
  static void p32_nIs1To10(Check c) {
    Edges.within(c, 1, 10, Edges.NONE_SUCH, DropPens::clean);
  }

  /** "its INK leaves the TANK: how much; -1, doing nothing: it has too little." */
  static void p32_justEnoughAndOneTooLittle(Check c) {
    DropPens x = new DropPens();
    days(x, 8);
    x.fill(8);
    c.due("one too little", x.clean(1), -1);
    c.due("TANK", x.ink(1), 8);
    c.due("cleaned off", x.ink(4), 0);
    x.fill(1);
    c.due("just enough", x.clean(1), 9);
    c.due("TANK", x.ink(1), 0);
    c.due("cleaned off", x.ink(4), 9);
    c.due("nothing left", x.clean(1), -1);
  }

  /** "-1, doing nothing". */
  static void p32_aRefusedCleaningDoesNothing(Check c) {
    Edges.idle(c, "too little", x -> {
      while (x.clean(10) > 0) {
        continue;
      }
      return 0;
    }, x -> x.clean(10), -1);
  }

  /** A PLAN without INK needs none. */
  static void p32_noInkNeeded(Check c) {
    DropPens x = new DropPens();
    c.due("nothing bad, an empty TANK", x.clean(10), 0);
    cleaning(x, 0, 0, 100);
    days(x, 8, 8, 8);
    c.due("all for nothing, an empty TANK", x.clean(3), 0);
    c.due("cleaned off", x.ink(4), 0);
  }

  /** The INK of that many DAYS alone, though the PLAN of more has more. */
  static void p32_thePlanForSoManyDays(Check c) {
    DropPens x = new DropPens();
    days(x, 8, 8);
    x.fill(27);
    c.due("one DAY", x.clean(1), 9);
    c.due("two DAYS", x.clean(2), 18);
    c.due("TANK", x.ink(1), 0);
    c.due("cleaned off", x.ink(4), 27);
  }
}
