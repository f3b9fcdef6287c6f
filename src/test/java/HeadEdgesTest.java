/** The edges of promises 1 to 6: a new object, LEAN, SHUT, PASSES, settings. */
public final class HeadEdgesTest {
  public static void main(String[] args) throws IllegalAccessException {
    Edges.run(HeadEdgesTest.class);
  }

  /** One HOLE alone is open, and one PASS with no OFFSET is there. */
  private static DropPens only(int hole) {
    DropPens x = new DropPens();
    for (int h = 0; h < 24; h++) {
      x.shut(h, h != hole);
    }
    x.pass(0);
    return x;
  }

  // ---- 1: a new object ----

  /** "An empty TANK". */
  static void p01_theTankIsEmpty(Check c) {
    DropPens x = new DropPens();
    for (int what = 0; what <= 4; what++) {
      c.due("INK " + what, x.ink(what), 0);
    }
    c.due("no drop to SPIT", x.spit(), -1);
    c.due("one drop is all then", x.fill(1), 1);
  }

  /** "no PASSES". */
  static void p01_thereAreNoPasses(Check c) {
    DropPens x = new DropPens();
    c.due("PASSES", x.count(0), 0);
    c.due("none go", x.clear(), 0);
    c.noPass("PASS 0", () -> x.given(0, 0, 0));
    c.due("no DROPS", x.way(-1, 3), 0);
    c.due("the first has number 0", x.pass(0), 0);
  }

  /** "no PICTURE"; "WISHED in each CELL 0 to 3 drops (0 at first)". */
  static void p01_thereIsNoPicture(Check c) {
    DropPens x = new DropPens();
    c.due("drops WISHED", x.count(1), 0);
    c.due("FAULT", x.fault(), DropPens.NONE);
    c.due("cost", x.cost(-1), 0);
    for (int cell = 0; cell < 384; cell++) {
      c.due("WISHED in " + cell, x.wished(cell), 0);
    }
  }

  /** "HOLES, numbered from 0 on (24 at first, never SHUT, LEAN 0)"; "WAITED is 0 at first"; "PHASE (0 at first)". */
  static void p01_24HolesOpenAndUpright(Check c) {
    DropPens x = new DropPens();
    for (int hole = 0; hole < 24; hole++) {
      c.due("SHUT " + hole, x.shut(hole, false), false);
      c.due("LEAN " + hole, x.lean(hole, 0), 0);
      c.due("WAITED " + hole, x.waited(hole), 0);
      c.due("PHASE " + hole, x.phase(hole, 0), 0);
    }
    c.noHole("HOLE 24", () -> x.waited(24));
    c.due("none SHUT", x.count(5), 0);
    x.pass(0);
    c.due("24 DROPS in a COLUMN", x.way(0, 3), 24);
  }

  /** "REACH (1 at first)", "MISS (9)", "DRIES (20)", "INK of WIPE and FLUSH (2 and 9)", "PRICE (3)". */
  static void p01_settingsAtFirst(Check c) {
    DropPens x = new DropPens();
    int[] first = {1, 9, 20, 2, 9, 3};
    for (int what = 0; what < 6; what++) {
      c.due("set " + what, x.set(what, 1), first[what]);
    }
  }

  /** "SHARES by 1, 2, 3 HOLES away (30, 10, 0 at first); a LIMIT (60 at first)"; "GOES: 0 at first". */
  static void p01_sharesLimitAndGoesAtFirst(Check c) {
    DropPens x = new DropPens();
    c.due("1 away", x.share(1, 0), 30);
    c.due("2 away", x.share(2, 0), 10);
    c.due("3 away", x.share(3, 0), 0);
    c.due("LIMIT", x.limit(0), 60);
    for (int i = 0; i < 16; i++) {
      if (i / 4 != i % 4) {
        c.due("GOES " + i / 4 + " to " + i % 4, x.goes(i / 4, i % 4, 0), 0);
      }
    }
  }

  /** "P 1 and Q 1 at first": y is 1, P, P P - Q. */
  static void p01_tonesAtFirst(Check c) {
    DropPens x = new DropPens();
    int row = 3 + 8 * 2 + 64 * 2 + 512 * 2;
    c.due("P", x.swing(row, 4, 3, 0), 1);
    c.due("P P - Q", x.swing(row, 4, 4, 0), 0);
  }

  /** "TOLLS of ROWS (0 at first)"; "NEW by DAYS; 0 at first". */
  static void p01_tollsAndNewAtFirst(Check c) {
    DropPens x = new DropPens();
    for (int row = 0; row < 24; row++) {
      c.due("TOLL " + row, x.toll(row, 1), 0);
    }
    for (int day = 0; day < 10; day++) {
      c.due("NEW " + day, x.bad(day, 1), 0);
    }
  }

  /** Nothing on the TAPE, no print, no TEST, no MARK. */
  static void p01_nothingYet(Check c) {
    DropPens x = new DropPens();
    for (int what = 0; what <= 6; what++) {
      c.due("count " + what, x.count(what), 0);
    }
    for (int cell = 0; cell < 384; cell++) {
      c.due("DOTS in " + cell, x.dots(cell), 0);
    }
    c.noneSuch("no byte on the TAPE", () -> x.picture(1));
    c.noState("no search", () -> x.fewest());
    c.due("no MARK", x.back(), -1);
    c.due("nothing to print", x.print(), 0);
  }

  /** What one object was told no other one knows. */
  static void p01_objectsAreApart(Check c) {
    String fresh = Edges.everything(new DropPens());
    Edges.busy();
    c.same("a new one", Edges.everything(new DropPens()), fresh);
  }

  /** "An object is used for at most 512 calls after it has been made". */
  static void p01_the512thCallIsAnswered(Check c) {
    DropPens x = new DropPens();
    for (int call = 1; call <= 511; call++) {
      c.due("call " + call, x.wish(383, call % 4), (call - 1) % 4);
    }
    c.due("call 512", x.wished(383), 511 % 4);
    DropPens y = new DropPens();
    for (int call = 1; call <= 511; call++) {
      c.due("print " + call, y.print(), 0);
    }
    c.due("511 prints", y.count(2), 511);
    DropPens z = new DropPens();
    for (int call = 1; call <= 511; call++) {
      c.throwing("throw " + call, Edges.NO_INDEX, () -> z.cost(16));
    }
    c.due("after as many exceptions", z.cost(15), 0);
  }

  // ---- 2: lean ----

  /** "LEAN (-2 to 2)"; "IllegalArgumentException: it is none such". */
  static void p02_leanIsMinus2To2(Check c) {
    Edges.within(c, -2, 2, Edges.NONE_SUCH, (x, v) -> x.lean(6, v));
    DropPens x = new DropPens();
    for (int v = -2; v <= 2; v++) {
      c.due("to " + v, x.lean(6, v), v == -2 ? 0 : v - 1);
    }
  }

  /** "IndexOutOfBoundsException: no such HOLE". */
  static void p02_holesAre0To23(Check c) {
    Edges.within(c, 0, 23, Edges.NO_INDEX, (x, v) -> x.lean(v, 1));
  }

  /** Of both exceptions the one that the face names first. */
  static void p02_noHoleIsAheadOfNoLean(Check c) {
    Edges.refused(c, "HOLE 24, LEAN 3", Edges.NO_INDEX, x -> x.lean(24, 3));
    Edges.refused(c, "HOLE -1, LEAN -3", Edges.NO_INDEX, x -> x.lean(-1, -3));
  }

  /** "-3: it is SHUT". */
  static void p02_aShutHoleAnswersMinus3(Check c) {
    Edges.idle(c, "SHUT", x -> x.shut(7, true) ? 1 : 0, x -> x.lean(7, -1), -3);
    Edges.idle(c, "SHUT, as it was", x -> x.shut(7, true) ? 1 : 0, x -> x.lean(7, 2), -3);
    Edges.refused(c, "SHUT, LEAN 3", Edges.NONE_SUCH, x -> x.lean(4, 3));
    DropPens x = new DropPens();
    x.lean(7, 2);
    x.shut(7, true);
    x.lean(7, -1);
    x.shut(7, false);
    c.due("open again: LEAN stayed", x.lean(7, -1), 2);
    c.due("and is told again", x.lean(7, 0), -1);
  }

  /** "if that is none of the 24 .. it can't be thrown". */
  static void p02_leaningOverTheFirstRow(Check c) {
    DropPens x = only(1);
    x.lean(1, -1);
    c.due("ROW 0", x.way(0, 3), 1);
    x.lean(1, -2);
    c.due("above it", x.way(0, 3), 0);
    DropPens y = only(0);
    c.due("HOLE 0, ROW 0", y.way(0, 3), 1);
    y.lean(0, -1);
    c.due("HOLE 0, above it", y.way(0, 3), 0);
  }

  /** "if that is none of the 24 .. it can't be thrown". */
  static void p02_leaningOverTheLastRow(Check c) {
    DropPens x = only(22);
    x.lean(22, 1);
    c.due("ROW 23", x.way(0, 3), 1);
    x.lean(22, 2);
    c.due("below it", x.way(0, 3), 0);
    DropPens y = only(23);
    c.due("HOLE 23, ROW 23", y.way(0, 3), 1);
    y.lean(23, 1);
    c.due("HOLE 23, below it", y.way(0, 3), 0);
  }

  // ---- 3: shut ----

  /** "IndexOutOfBoundsException" for no such HOLE. */
  static void p03_holesAre0To23(Check c) {
    Edges.within(c, 0, 23, Edges.NO_INDEX, (x, v) -> x.shut(v, true) ? 1 : 0);
    Edges.within(c, 0, 23, Edges.NO_INDEX, (x, v) -> x.shut(v, false) ? 1 : 0);
  }

  /** "A HOLE is SHUT, or not: whether it was." */
  static void p03_asItWasAlready(Check c) {
    DropPens x = new DropPens();
    c.due("open, told open", x.shut(0, false), false);
    c.due("open, told SHUT", x.shut(0, true), false);
    c.due("SHUT, told SHUT", x.shut(0, true), true);
    c.due("SHUT, told open", x.shut(0, false), true);
    c.due("open once more", x.shut(0, false), false);
  }

  /** "or the HOLE is SHUT, it can't be thrown": none and all. */
  static void p03_noneAndAllAreShut(Check c) {
    DropPens x = new DropPens();
    x.pass(0);
    c.due("none SHUT", x.count(5), 0);
    for (int hole = 0; hole < 24; hole++) {
      c.due("DROPS", x.way(0, 3), 24 - hole);
      x.shut(hole, true);
    }
    c.due("all SHUT", x.count(5), 24);
    c.due("no DROP", x.way(-1, 3), 0);
  }

  /** SHUT is one number of a HOLE; LEAN, WAITED and PHASE stay. */
  static void p03_theOtherNumbersStay(Check c) {
    DropPens x = new DropPens();
    x.pass(0);
    x.print();
    x.lean(3, 1);
    x.phase(3, 2);
    int open = x.digest();
    x.shut(3, true);
    c.due("WAITED", x.waited(3), 16);
    x.shut(3, false);
    c.due("all is as it was", x.digest(), open);
  }

  // ---- 4: pass ----

  /** "an OFFSET (-24 to 24)". */
  static void p04_offsetsAreMinus24To24(Check c) {
    Edges.within(c, -24, 24, Edges.NONE_SUCH, DropPens::pass);
  }

  /** "PASSES, numbered from 0 on, 4 at most"; "-1: there are 4". */
  static void p04_fourAndTheFifth(Check c) {
    DropPens x = new DropPens();
    for (int number = 0; number < 4; number++) {
      c.due("PASS", x.pass(7), number);
    }
    c.due("a 5th", x.pass(7), -1);
    c.due("4 are there", x.count(0), 4);
    Edges.idle(c, "a 5th", y -> y.pass(-24), y -> y.pass(24), -1);
  }

  /** The number is looked at ahead of how many there are. */
  static void p04_noOffsetIsAheadOfFour(Check c) {
    DropPens x = new DropPens();
    for (int number = 0; number < 4; number++) {
      x.pass(0);
    }
    c.noneSuch("25", () -> x.pass(25));
    c.noneSuch("-25", () -> x.pass(-25));
    c.due("24", x.pass(24), -1);
  }

  /** "the ROW: the HOLE's number, OFFSET and LEAN together; if that is none of the 24 .. it can't be thrown". */
  static void p04_offsetsThatLeaveThePaper(Check c) {
    int[] offsets = {-24, -23, -1, 0, 1, 23, 24};
    int[] drops = {0, 1, 23, 24, 23, 1, 0};
    for (int i = 0; i < offsets.length; i++) {
      DropPens x = new DropPens();
      x.pass(offsets[i]);
      c.due("DROPS with " + offsets[i], x.way(0, 3), drops[i]);
    }
    DropPens up = new DropPens();
    up.pass(24);
    up.lean(0, -1);
    c.due("24 and LEAN -1", up.way(0, 3), 1);
    up.wish(16 * 23, 1);
    c.due("falls in ROW 23", up.given(0, 0, 0), 23);
    DropPens down = new DropPens();
    down.pass(-24);
    down.lean(23, 1);
    c.due("-24 and LEAN 1", down.way(0, 3), 1);
    down.wish(0, 1);
    c.due("falls in ROW 0", down.given(0, 0, 23), 0);
  }

  // ---- 5: clear ----

  /** "All PASSES go: how many there were." */
  static void p05_noneAndFour(Check c) {
    DropPens x = new DropPens();
    for (int many = 0; many <= 4; many++) {
      for (int i = 0; i < many; i++) {
        x.pass(i);
      }
      c.due("so many", x.clear(), many);
      c.due("none are left", x.count(0), 0);
      c.due("none go then", x.clear(), 0);
    }
  }

  /** PASSES are "numbered from 0 on" again, and an old number is none. */
  static void p05_numbersBeginAnew(Check c) {
    DropPens x = new DropPens();
    x.pass(1);
    x.pass(2);
    x.clear();
    c.noPass("PASS 0 is gone", () -> x.slow(0, 0));
    c.due("anew", x.pass(3), 0);
    c.taken("PASS 0 is there", () -> x.slow(0, 0));
    c.noPass("PASS 1 is not", () -> x.slow(0, 1));
  }

  /** PASSES go, and nothing else. */
  static void p05_nothingElseGoes(Check c) {
    DropPens x = new DropPens();
    x.lean(2, 1);
    x.wish(7, 3);
    x.fill(9);
    int without = x.digest();
    x.pass(5);
    c.due("with a PASS", x.digest() == without, false);
    x.clear();
    c.due("without", x.digest(), without);
  }

  // ---- 6: set ----

  private static void setting(Check c, int what, int least, int most) {
    Edges.within(c, least, most, Edges.NONE_SUCH, (x, v) -> x.set(what, v));
    DropPens x = new DropPens();
    x.set(what, least);
    c.due("least", x.set(what, most), least);
    c.due("most", x.set(what, least), most);
  }

  /** "REACH (0 to 2)". */
  static void p06_reachIs0To2(Check c) {
    setting(c, 0, 0, 2);
  }

  /** "MISS (1 to 50)". */
  static void p06_missIs1To50(Check c) {
    setting(c, 1, 1, 50);
  }

  /** "DRIES (1 to 1,000)". */
  static void p06_driesIs1To1000(Check c) {
    setting(c, 2, 1, 1000);
  }

  /** "INK of WIPE and FLUSH: 0 to 100". */
  static void p06_inkOfWipeIs0To100(Check c) {
    setting(c, 3, 0, 100);
  }

  /** "INK of WIPE and FLUSH: 0 to 100". */
  static void p06_inkOfFlushIs0To100(Check c) {
    setting(c, 4, 0, 100);
  }

  /** "PRICE 0 to 100". */
  static void p06_priceIs0To100(Check c) {
    setting(c, 5, 0, 100);
  }

  /** "IllegalArgumentException: another what". */
  static void p06_whatIs0To5(Check c) {
    Edges.within(c, 0, 5, Edges.NONE_SUCH, (x, v) -> x.set(v, 1));
  }
}
