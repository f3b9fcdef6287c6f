import java.math.BigInteger;

/** The edges of promises 48 to 53: what an eye sees, the DIGEST, MARKS, counts. */
public final class MarkEdgesTest {
  public static void main(String[] args) throws IllegalAccessException {
    Edges.run(MarkEdgesTest.class);
  }

  // ---- 48 and 49: seen, stripe ----

  /** "IndexOutOfBoundsException" for no such ROW. */
  static void p48_rowsAre0To23(Check c) {
    Edges.within(c, 0, 23, Edges.NO_INDEX, DropPens::seen);
  }

  /** "4 times its DARK, 2 times those of the ROWS beside it, once those 2 away (as far as there are such)". */
  static void p48_asFarAsThereAreRows(Check c) {
    for (int dark = 0; dark < 24; dark++) {
      DropPens x = new DropPens();
      x.wish(16 * dark, 1);
      for (int row = 0; row < 24; row++) {
        int away = Math.abs(row - dark);
        c.due("WISHED in ROW " + dark + ", SEEN in " + row, x.seen(row), away > 2 ? 0 : -(4 >> away));
      }
    }
  }

  /** The first ROW and the last lack ROWS on one side. */
  static void p48_theEdgesOfThePaper(Check c) {
    DropPens x = new DropPens();
    Check.draw(x, "a" + "/=".repeat(23));
    int[] want = {-7, -9, -10, -10};
    for (int i = 0; i < want.length; i++) {
      c.due("ROW " + i, x.seen(i), want[i]);
      c.due("ROW " + (23 - i), x.seen(23 - i), want[i]);
    }
  }

  /** "its DOTS less its WISHED drops, in all COLUMNS": nothing, the least, the most. */
  static void p48_theLeastAndTheMost(Check c) {
    DropPens x = new DropPens();
    c.due("nothing", x.seen(12), 0);
    Check.draw(x, "16c" + "/=".repeat(23));
    c.due("all WISHED, no DOT", x.seen(12), -480);
    for (int pass = 0; pass < 3; pass++) {
      x.pass(0);
    }
    x.fill(1152);
    c.due("all lie", x.print(), 1152);
    c.due("as WISHED", x.seen(12), 0);
    x.picture(0);
    c.due("all DOTS, none WISHED", x.seen(12), 480);
    c.due("at the edge", x.seen(0), 48 * 7);
  }

  /** One DOT too many beside one too few in a ROW: in all COLUMNS it is neither dark nor light. */
  static void p48_columnsTogether(Check c) {
    DropPens x = new DropPens();
    x.pass(0);
    x.fill(1);
    x.wish(16 * 5, 1);
    x.print();
    x.wish(16 * 5, 0);
    x.wish(16 * 5 + 15, 1);
    c.due("ROW 5", x.seen(5), 0);
    c.due("wrong CELLS", x.wrong(), 2);
  }

  /** "the ROW in which the amount SEEN is greatest; of these the first". */
  static void p49_ofTheseTheFirst(Check c) {
    DropPens x = new DropPens();
    c.due("nothing SEEN", x.stripe(), 0);
    x.wish(16 * 23, 1);
    c.due("the last ROW", x.stripe(), 23);
    x.wish(0, 1);
    c.due("the first ROW as much", x.stripe(), 0);
    x.wish(16 * 23 + 1, 1);
    c.due("the last ROW more", x.stripe(), 23);
  }

  /** "the amount": light ROWS as well as dark ones. */
  static void p49_theAmount(Check c) {
    DropPens x = new DropPens();
    x.pass(0);
    x.fill(4);
    x.wish(16 * 20, 1);
    x.print();
    x.picture(0);
    c.due("a dark ROW", x.stripe(), 20);
    x.wish(16 * 10, 1);
    c.due("a light one as much, ahead of it", x.stripe(), 10);
    x.wish(16 * 10, 0);
    x.wish(16 * 23, 1);
    // ROW 20 has 4, ROW 23 -4, ROWS 21 and 22 2 - 1 and 1 - 2
    c.due("a light one as much, behind it", x.stripe(), 20);
    x.wish(16 * 23, 2);
    c.due("a light one that is more", x.stripe(), 23);
  }

  // ---- 50: digest ----

  /** "17 at first; then for each number 31 times as much and that number (32 bits that wrap)": 903 zeros. */
  static void p50_ofANewObject(Check c) {
    BigInteger all = BigInteger.valueOf(31).pow(24 * 4 + 384 * 2 + 5 + 24 + 10).multiply(BigInteger.valueOf(17));
    c.due("new", new DropPens().digest(), all.intValue());
  }

  /** "PASS by PASS the OFFSET": none, and four; an OFFSET of 0 is a number, too. */
  static void p50_noPassAndFour(Check c) {
    BigInteger all = BigInteger.valueOf(31).pow(903).multiply(BigInteger.valueOf(17));
    DropPens x = new DropPens();
    for (int many = 1; many <= 4; many++) {
      x.pass(0);
      all = all.multiply(BigInteger.valueOf(31));
      c.due(many + " of 0", x.digest(), all.intValue());
    }
    x.clear();
    int[] offsets = {-24, 24, -1, 1};
    BigInteger sum = BigInteger.valueOf(31).pow(24 * 4).multiply(BigInteger.valueOf(17));
    for (int offset : offsets) {
      x.pass(offset);
      sum = sum.multiply(BigInteger.valueOf(31)).add(BigInteger.valueOf(offset));
    }
    c.due("four", x.digest(), sum.multiply(BigInteger.valueOf(31).pow(807)).intValue());
  }

  /** The first number of all is LEAN of HOLE 0, the last one NEW of DAY 9. */
  static void p50_theFirstNumberAndTheLast(Check c) {
    BigInteger none = BigInteger.valueOf(31).pow(903).multiply(BigInteger.valueOf(17));
    DropPens x = new DropPens();
    x.bad(9, 8);
    c.due("NEW of DAY 9", x.digest(), none.add(BigInteger.valueOf(8)).intValue());
    x.bad(9, 0);
    x.lean(0, -2);
    c.due("LEAN of HOLE 0", x.digest(), none.subtract(BigInteger.valueOf(31).pow(902).shiftLeft(1)).intValue());
  }

  private static int hash(int[] numbers) {
    BigInteger sum = BigInteger.valueOf(17);
    for (int number : numbers) {
      sum = sum.multiply(BigInteger.valueOf(31)).add(BigInteger.valueOf(number));
    }
    return sum.intValue();
  }

  /** "HOLE by HOLE LEAN, 1 if SHUT (else 0), WAITED, PHASE; .. CELL by CELL WISHED, DOTS; INK 0 to 4; .." */
  static void p50_eachNumberAtItsPlace(Check c) {
    int[] all = new int[903];
    DropPens x = new DropPens();
    x.lean(23, 2);
    all[4 * 23] = 2;
    c.due("LEAN", x.digest(), hash(all));
    x.shut(23, true);
    all[4 * 23 + 1] = 1;
    c.due("SHUT", x.digest(), hash(all));
    x.phase(23, 2);
    all[4 * 23 + 3] = 2;
    c.due("PHASE", x.digest(), hash(all));
    x.wish(383, 3);
    all[96 + 2 * 383] = 3;
    x.wish(0, 1);
    all[96] = 1;
    c.due("WISHED", x.digest(), hash(all));
    x.fill(100);
    all[864] = 100;
    all[865] = 100;
    c.due("INK 0 and 1", x.digest(), hash(all));
    x.toll(0, 50);
    all[869] = 50;
    x.toll(23, 1);
    all[892] = 1;
    c.due("TOLLS", x.digest(), hash(all));
    x.bad(0, 8);
    all[893] = 8;
    c.due("NEW", x.digest(), hash(all));
    x.pass(0);
    x.wish(383, 0);
    x.print();
    x.clear();
    all[96 + 2 * 383] = 0;
    for (int hole = 0; hole < 24; hole++) {
      all[4 * hole + 2] = hole == 0 ? 15 : 16;
    }
    all[97] = 1;
    all[865] = 99;
    all[866] = 1;
    c.due("WAITED, DOTS, INK 2", x.digest(), hash(all));
    x.clean(1);
    all[865] = 90;
    all[868] = 9;
    c.due("INK 4", x.digest(), hash(all));
    x.spit();
    for (int hole = 0; hole < 23; hole++) {
      all[4 * hole + 2] = 0;
    }
    all[865] = 67;
    all[867] = 23;
    c.due("INK 3", x.digest(), hash(all));
  }

  /** To ask changes nothing. */
  static void p50_askedTwice(Check c) {
    DropPens x = Edges.busy();
    c.due("again", x.digest(), x.digest());
  }

  // ---- 51 and 52: mark, back ----

  /** "MARKS, 4 at most"; "how many there are; -1: there are 4". */
  static void p51_fourAndTheFifth(Check c) {
    DropPens x = new DropPens();
    for (int many = 1; many <= 4; many++) {
      x.wish(0, many % 4);
      c.due("MARK", x.mark(), many);
    }
    x.wish(0, 3);
    c.due("a 5th", x.mark(), -1);
    c.due("4 are there", x.count(6), 4);
    x.back();
    c.due("the 4th is as it was", x.wished(0), 0);
    c.due("room for one", x.mark(), 4);
    c.due("and no more", x.mark(), -1);
    Edges.idle(c, "a 5th", y -> y.mark() + y.mark() + y.wish(0, 1), DropPens::mark, -1);
  }

  /** "BACK: how many MARKS are left; -1, doing nothing: there is none." */
  static void p52_noMark(Check c) {
    DropPens x = new DropPens();
    x.wish(0, 2);
    c.due("none yet", x.back(), -1);
    c.due("nothing is done", x.wished(0), 2);
    x.mark();
    x.wish(0, 3);
    c.due("the only one", x.back(), 0);
    c.due("as it was", x.wished(0), 2);
    x.wish(0, 1);
    c.due("none any more", x.back(), -1);
    c.due("nothing is done", x.wished(0), 1);
    Edges.idle(c, "none", y -> y.back() + y.back(), DropPens::back, -1);
  }

  /** "the latest MARK, which is gone then". */
  static void p52_theLatestMark(Check c) {
    DropPens x = new DropPens();
    for (int v = 1; v <= 3; v++) {
      x.wish(5, v);
      x.mark();
    }
    x.wish(5, 0);
    for (int v = 3; v >= 1; v--) {
      c.due("MARKS left", x.back(), v - 1);
      c.due("as it was", x.wished(5), v);
    }
  }

  /** "keeps all numbers that the DIGEST has (PASSES, too)": none, and four. */
  static void p52_passesToo(Check c) {
    DropPens x = new DropPens();
    x.mark();
    for (int offset = 1; offset <= 4; offset++) {
      x.pass(offset);
    }
    int four = x.digest();
    x.mark();
    x.clear();
    x.pass(-9);
    x.mark();
    c.due("one PASS", x.back(), 2);
    c.due("one", x.count(0), 1);
    x.back();
    c.due("four", x.count(0), 4);
    c.due("with their OFFSETS", x.digest(), four);
    c.due("no 5th", x.pass(0), -1);
    x.back();
    c.due("none", x.count(0), 0);
    c.noPass("PASS 0", () -> x.given(0, 0, 0));
    c.due("the first", x.pass(0), 0);
  }

  /** Each number that the DIGEST has goes back. */
  static void p52_eachNumberGoesBack(Check c) {
    DropPens x = new DropPens();
    x.pass(0);
    x.fill(200);
    x.wish(16 * 7 + 15, 1);
    x.print();
    x.wish(16 * 7 + 15, 0);
    x.mark();
    x.lean(23, 2);
    x.shut(22, true);
    x.phase(21, 2);
    x.wish(383, 3);
    x.toll(23, 50);
    x.bad(9, 8);
    x.print();
    x.spit();
    x.clean(10);
    x.fill(1);
    c.due("back", x.back(), 0);
    c.due("WAITED", x.waited(0), 16);
    c.due("WAITED no more", x.waited(7), 0);
    c.due("DOTS", x.dots(16 * 7 + 15), 1);
    c.due("no DOTS", x.dots(383) + x.dots(383 - 16), 0);
    c.due("SHUT", x.shut(22, false), false);
    c.due("LEAN", x.lean(23, 0), 0);
    c.due("PHASE", x.phase(21, 0), 0);
    c.due("WISHED", x.wished(383), 0);
    c.due("TOLL", x.toll(23, 0), 0);
    c.due("NEW", x.bad(9, 0), 0);
    int[] inks = {200, 199, 1, 0, 0};
    for (int what = 0; what < 5; what++) {
      c.due("INK " + what, x.ink(what), inks[what]);
    }
  }

  /** What is dealt, bounded, planned and seen goes by the numbers that are back. */
  static void p52_whatFollowsFromTheNumbers(Check c) {
    DropPens x = new DropPens();
    x.pass(0);
    x.wish(16 * 5, 2);
    x.toll(5, 4);
    x.bad(0, 1);
    int[] before = {x.cost(0), x.given(0, 0, 4), x.bound(0), x.plan(1, -1), x.seen(5), x.phases(0, 0, -2), x.worst(5)};
    x.mark();
    x.shut(4, true);
    x.shut(6, true);
    x.wish(16 * 5, 3);
    x.toll(5, 9);
    x.bad(0, 8);
    x.phase(5, 1);
    int[] then = {x.cost(0), x.given(0, 0, 4), x.bound(0), x.plan(1, -1), x.seen(5), x.phases(0, 0, -2), x.worst(5)};
    x.back();
    c.due("cost", x.cost(0), before[0]);
    c.due("given", x.given(0, 0, 4), before[1]);
    c.due("bound", x.bound(0), before[2]);
    c.due("plan", x.plan(1, -1), before[3]);
    c.due("seen", x.seen(5), before[4]);
    c.due("phases", x.phases(0, 0, -2), before[5]);
    c.due("worst", x.worst(5), before[6]);
    c.due("the cost was another", then[0] == before[0], false);
    c.due("the bound was another", then[2] == before[2], false);
    c.due("the plan was another", then[3] == before[3], false);
  }

  /** "makes them what they were": what the DIGEST has not is not among them. */
  static void p52_whatTheDigestHasNotStays(Check c) {
    DropPens x = new DropPens();
    x.mark();
    x.set(0, 2);
    x.print();
    x.search(3, 1);
    x.test(0, 0, true);
    x.feed(0, 0, 0, 0, 0);
    x.limit(7);
    x.share(1, 8);
    x.goes(0, 1, 9);
    x.back();
    c.due("REACH", x.set(0, 1), 2);
    c.due("prints", x.count(2), 1);
    c.due("TESTS", x.count(3), 1);
    c.due("TAPE", x.count(4), 20);
    c.due("LIMIT", x.limit(60), 7);
    c.due("SHARE", x.share(1, 30), 8);
    c.due("GOES", x.goes(0, 1, 0), 9);
  }

  // ---- 53: count ----

  /** "NONE for others": no exception. */
  static void p53_whatIs0To6NoneForOthers(Check c) {
    DropPens x = new DropPens();
    for (int what = 0; what <= 6; what++) {
      c.due("what " + what, x.count(what), 0);
    }
    for (int what : new int[] {-1, 7, 8, Integer.MIN_VALUE, Integer.MAX_VALUE}) {
      c.due("what " + what, x.count(what), DropPens.NONE);
    }
  }

  /** Each as far as it goes, and no farther. */
  static void p53_theMostOfEach(Check c) {
    DropPens x = new DropPens();
    for (int i = 0; i < 5; i++) {
      x.pass(0);
      x.mark();
    }
    c.due("PASSES", x.count(0), 4);
    c.due("MARKS", x.count(6), 4);
    Check.draw(x, "16c" + "/=".repeat(23));
    c.due("drops WISHED", x.count(1), 1152);
    c.due("bytes behind picture()", x.count(4), 0);
    for (int i = 0; i < 16; i++) {
      x.feed(0, 0, 0, 0, 0);
    }
    c.due("bytes of the TAPE", x.count(4), 300);
    x.search(8, 2);
    for (int i = 0; i < 21; i++) {
      x.test(0, 0, true);
    }
    c.due("TESTS TOLD", x.count(3), 20);
    for (int hole = 0; hole < 24; hole++) {
      x.shut(hole, true);
      x.shut(hole, true);
    }
    c.due("HOLES that are SHUT", x.count(5), 24);
  }

  /** "2 prints": a refused one is none. */
  static void p53_refusedPrintsDoNotCount(Check c) {
    DropPens x = new DropPens();
    x.pass(0);
    x.wish(0, 1);
    c.due("refused", x.print(), -1);
    c.due("none", x.count(2), 0);
    x.fill(1);
    x.print();
    c.due("one", x.count(2), 1);
    x.print();
    c.due("one still", x.count(2), 1);
  }

  /** "3 TESTS TOLD": of the latest search(). */
  static void p53_testsOfTheLatestSearch(Check c) {
    DropPens x = new DropPens();
    x.search(4, 1);
    x.test(0, 1, true);
    c.due("one", x.count(3), 1);
    x.search(4, 1);
    c.due("none", x.count(3), 0);
  }
}
