import java.math.BigInteger;

/** The edges of promises 40 to 43: GOES, ODDS, the likely STATE, how soon ODDS are below. */
public final class OddsEdgesTest {
  public static void main(String[] args) throws IllegalAccessException {
    Edges.run(OddsEdgesTest.class);
  }

  private static void digits(Check c, DropPens x, int from, int to, int seconds, BigInteger number) {
    String text = "0".repeat(61) + number;
    for (int k = 0; k <= 2 * seconds; k++) {
      c.due("DIGIT " + k, x.odds(from, to, seconds, k), text.charAt(text.length() - 1 - k) - '0');
    }
  }

  // ---- 40: goes ----

  /** "STATES of any hole: 0 fine, 1 dry, 2 airy, 3 shut"; "no such STATES". */
  static void p40_statesAre0To3(Check c) {
    Edges.within(c, 0, 2, Edges.NONE_SUCH, (x, v) -> x.goes(v, 3, 0));
    Edges.within(c, 1, 3, Edges.NONE_SUCH, (x, v) -> x.goes(v, 0, 0));
    Edges.within(c, 0, 2, Edges.NONE_SUCH, (x, v) -> x.goes(3, v, 0));
    Edges.within(c, 1, 3, Edges.NONE_SUCH, (x, v) -> x.goes(0, v, 0));
  }

  /** "they are one". */
  static void p40_theStatesAreOne(Check c) {
    for (int state = 0; state < 4; state++) {
      int one = state;
      Edges.refused(c, "STATE " + state, Edges.NONE_SUCH, x -> x.goes(one, one, 0));
    }
  }

  /** "GOES: 0 to 100". */
  static void p40_goesIs0To100(Check c) {
    Edges.within(c, 0, 100, Edges.NONE_SUCH, (x, v) -> x.goes(1, 2, v));
    DropPens x = new DropPens();
    c.due("at first", x.goes(1, 2, 100), 0);
    c.due("the most", x.goes(1, 2, 0), 100);
    c.due("the least", x.goes(1, 2, 0), 0);
  }

  /** "from one STATE together 100 at most"; "-1: they would be above 100 together". */
  static void p40_together100AndOneMore(Check c) {
    DropPens x = new DropPens();
    x.goes(0, 1, 50);
    x.goes(0, 2, 30);
    c.due("21 more", x.goes(0, 3, 21), -1);
    c.due("20 more", x.goes(0, 3, 20), 0);
    c.due("one more than it was", x.goes(0, 1, 51), -1);
    c.due("as it was", x.goes(0, 1, 50), 50);
    c.due("one less", x.goes(0, 1, 49), 50);
    c.due("one more for another", x.goes(0, 2, 31), 30);
    c.due("two more for another", x.goes(0, 2, 32), -1);
    c.due("from another STATE", x.goes(3, 0, 100), 0);
    c.due("to it", x.goes(1, 0, 100), 0);
  }

  /** "-1": nothing is changed then. */
  static void p40_aRefusedNumberChangesNothing(Check c) {
    // 30 go to 1 and 20 to 3
    Edges.idle(c, "51 to 2", x -> 0, x -> x.goes(0, 2, 51), -1);
    Edges.idle(c, "81 to 1", x -> 0, x -> x.goes(0, 1, 81), -1);
    DropPens x = Edges.busy();
    c.due("80 to 1", x.goes(0, 1, 80), 30);
  }

  /** A number that is none such is ahead of what they would be together. */
  static void p40_noneSuchIsAheadOfAbove100(Check c) {
    DropPens x = new DropPens();
    x.goes(0, 1, 100);
    c.noneSuch("101", () -> x.goes(0, 2, 101));
    c.noneSuch("the same STATE", () -> x.goes(0, 0, 1));
    c.due("1", x.goes(0, 2, 1), -1);
  }

  // ---- 41: odds ----

  /** "IllegalArgumentException: no such STATES": one and the same is fine here. */
  static void p41_statesAre0To3(Check c) {
    Edges.within(c, 0, 3, Edges.NONE_SUCH, (x, v) -> x.odds(v, 0, 1, 0));
    Edges.within(c, 0, 3, Edges.NONE_SUCH, (x, v) -> x.odds(0, v, 1, 0));
    Edges.within(c, 0, 3, Edges.NONE_SUCH, (x, v) -> x.odds(v, v, 1, 0));
  }

  /** "n SECONDS (0 to 30)". */
  static void p41_secondsAre0To30(Check c) {
    Edges.within(c, 0, 30, Edges.NONE_SUCH, (x, v) -> x.odds(0, 1, v, 0));
    Edges.refused(c, "31, and no such DIGIT", Edges.NONE_SUCH, x -> x.odds(0, 1, 31, -1));
  }

  /** "its DIGITS, from the lowest (0) on, 2 n + 1 of them"; "NONE: it has none such". */
  static void p41_digitsAre0To2N(Check c) {
    DropPens x = new DropPens();
    for (int n = 0; n <= 30; n++) {
      c.due("DIGIT -1 of " + n, x.odds(2, 2, n, -1), DropPens.NONE);
      c.due("DIGIT 0 of " + n, x.odds(2, 2, n, 0), n == 0 ? 1 : 0);
      c.due("DIGIT 2 n of " + n, x.odds(2, 2, n, 2 * n), 1);
      c.due("DIGIT 2 n + 1 of " + n, x.odds(2, 2, n, 2 * n + 1), DropPens.NONE);
    }
    c.due("far", x.odds(2, 2, 30, Integer.MAX_VALUE), DropPens.NONE);
    c.due("far below", x.odds(2, 2, 30, Integer.MIN_VALUE), DropPens.NONE);
  }

  /** 0 SECONDS behind a STATE it is that one alone: 1 of 1. */
  static void p41_noSecond(Check c) {
    DropPens x = new DropPens();
    x.goes(1, 2, 100);
    for (int i = 0; i < 16; i++) {
      c.due("from " + i / 4 + " to " + i % 4, x.odds(i / 4, i % 4, 0, 0), i / 4 == i % 4 ? 1 : 0);
    }
  }

  /** "the whole number that is so many of 100 to the power of n", "(0 ahead)": exact to the last of 61 DIGITS. */
  static void p41_exactIn30Seconds(Check c) {
    DropPens x = new DropPens();
    x.goes(0, 1, 1);
    BigInteger all = BigInteger.TEN.pow(60);
    BigInteger stay = BigInteger.valueOf(99).pow(30);
    digits(c, x, 0, 0, 30, stay);
    digits(c, x, 0, 1, 30, all.subtract(stay));
    digits(c, x, 0, 2, 30, BigInteger.ZERO);
    digits(c, x, 1, 1, 30, all);
    x.goes(0, 1, 99);
    digits(c, x, 0, 0, 30, BigInteger.ONE);
    digits(c, x, 0, 1, 30, all.subtract(BigInteger.ONE));
  }

  /** "the others stay": all may go. */
  static void p41_allGo(Check c) {
    DropPens x = new DropPens();
    x.goes(0, 1, 100);
    x.goes(1, 0, 100);
    digits(c, x, 0, 1, 29, BigInteger.TEN.pow(58));
    digits(c, x, 0, 0, 29, BigInteger.ZERO);
    digits(c, x, 0, 0, 30, BigInteger.TEN.pow(60));
    digits(c, x, 0, 1, 30, BigInteger.ZERO);
  }

  // ---- 42: likely ----

  /** "no such STATES". */
  static void p42_statesAre0To3(Check c) {
    Edges.within(c, 0, 3, Edges.NONE_SUCH, (x, v) -> x.likely(v, 1));
  }

  /** "SECONDS (so below)". */
  static void p42_secondsAre0To30(Check c) {
    Edges.within(c, 0, 30, Edges.NONE_SUCH, (x, v) -> x.likely(0, v));
    DropPens x = new DropPens();
    x.goes(3, 0, 100);
    c.due("0 SECONDS", x.likely(3, 0), 3);
    c.due("1 SECOND", x.likely(3, 1), 0);
    c.due("30 SECONDS", x.likely(3, 30), 0);
  }

  /** "of these the least". */
  static void p42_ofTheseTheLeast(Check c) {
    DropPens x = new DropPens();
    x.goes(3, 1, 50);
    c.due("50 and 50", x.likely(3, 1), 1);
    x.goes(3, 1, 49);
    c.due("49 and 51", x.likely(3, 1), 3);
    x.goes(3, 1, 34);
    x.goes(3, 2, 33);
    c.due("34, 33, 33", x.likely(3, 1), 1);
    x.goes(3, 1, 33);
    x.goes(3, 2, 34);
    c.due("33, 34, 33", x.likely(3, 1), 2);
    x.goes(3, 0, 25);
    x.goes(3, 1, 25);
    x.goes(3, 2, 25);
    c.due("25 each", x.likely(3, 1), 0);
  }

  /** "the greatest ODDS": greater by 1 of 100 to the power of n is greater. */
  static void p42_greaterByOne(Check c) {
    // of 0 and 1 49 stay, 50 change, 1 is gone: the two differ by (49 - 50) to the power of n
    DropPens x = new DropPens();
    for (int state = 0; state < 2; state++) {
      x.goes(state, 1 - state, 50);
      x.goes(state, 2, 1);
    }
    c.due("from 1, 30 SECONDS", x.likely(1, 30), 1);
    c.due("from 1, 29 SECONDS", x.likely(1, 29), 0);
    c.due("from 0, 30 SECONDS", x.likely(0, 30), 0);
    c.due("from 0, 29 SECONDS", x.likely(0, 29), 1);
    int lowest = x.odds(1, 1, 30, 0) - x.odds(1, 0, 30, 0);
    c.due("greater by 1", (lowest + 10) % 10, 1);
    // 50 stay and 50 change: as great
    for (int state = 0; state < 2; state++) {
      x.goes(state, 2, 0);
    }
    c.due("as great: the least", x.likely(1, 30), 0);
  }

  // ---- 43: below ----

  /** "no such STATES". */
  static void p43_statesAre0To3(Check c) {
    Edges.within(c, 0, 3, Edges.NONE_SUCH, (x, v) -> x.below(v, 0, 50));
    Edges.within(c, 0, 3, Edges.NONE_SUCH, (x, v) -> x.below(0, v, 50));
  }

  /** "also hundredths that are not 0 to 100". */
  static void p43_hundredthsAre0To100(Check c) {
    Edges.within(c, 0, 100, Edges.NONE_SUCH, (x, v) -> x.below(0, 1, v));
  }

  /** "below": as many are not; nothing is below 0. */
  static void p43_asManyAreNotBelow(Check c) {
    DropPens x = new DropPens();
    c.due("all, below 100", x.below(0, 0, 100), DropPens.NONE);
    c.due("none, below 0", x.below(0, 1, 0), DropPens.NONE);
    c.due("none, below 1", x.below(0, 1, 1), 0);
    x.goes(0, 1, 100);
    c.due("none behind 1 SECOND, below 0", x.below(0, 0, 0), DropPens.NONE);
    c.due("none behind 1 SECOND, below 1", x.below(0, 0, 1), 1);
    x.goes(0, 1, 50);
    c.due("50, below 51", x.below(0, 0, 51), 1);
    c.due("50, below 50", x.below(0, 0, 50), 2);
    c.due("25, below 26", x.below(0, 0, 26), 2);
    c.due("25, below 25", x.below(0, 0, 25), 3);
    // 12 and a half
    c.due("below 13", x.below(0, 0, 13), 3);
    c.due("below 12", x.below(0, 0, 12), 4);
  }

  /** "NONE: not in 30." */
  static void p43_in30AndNot(Check c) {
    // 99 to the power of 29 and of 30 are some 0.7471 and 0.7397 of all
    DropPens x = new DropPens();
    x.goes(0, 1, 1);
    c.due("below 75", x.below(0, 0, 75), 29);
    c.due("below 74", x.below(0, 0, 74), 30);
    c.due("below 73", x.below(0, 0, 73), DropPens.NONE);
  }

  /** "The first number of SECONDS": later ones may be above again. */
  static void p43_theFirst(Check c) {
    DropPens x = new DropPens();
    x.goes(0, 1, 100);
    x.goes(1, 0, 100);
    c.due("from 0 to 0", x.below(0, 0, 100), 1);
    c.due("from 0 to 1", x.below(0, 1, 100), 0);
    c.due("from 2 to 2", x.below(2, 2, 100), DropPens.NONE);
  }
}
