/** The edges of promises 22 to 24: tones, SPEED, LEFT, WORK, the BEST PUSH. */
public final class ChamberEdgesTest {
  public static void main(String[] args) throws IllegalAccessException {
    Edges.run(ChamberEdgesTest.class);
  }

  private static long tune(DropPens x, int p, int q) {
    x.tones(p, q);
    return 0;
  }

  private static int row(int... volts) {
    int row = 0;
    for (int tick = volts.length - 1; tick >= 0; tick--) {
      row = row * 8 + volts[tick] + 2;
    }
    return row;
  }

  // ---- 22: tones ----

  /** "tones P (-2 to 2)". */
  static void p22_pIsMinus2To2(Check c) {
    Edges.within(c, -2, 2, Edges.NONE_SUCH, (x, v) -> tune(x, v, 1));
    Edges.within(c, -2, 2, Edges.NONE_SUCH, (x, v) -> tune(x, v, -1));
    // y is 1, then P
    DropPens x = new DropPens();
    for (int p = -2; p <= 2; p++) {
      x.tones(p, 1);
      c.due("SPEED with P " + p, x.swing(row(1, 0, 0), 3, 3, 0), p);
    }
  }

  /** "Q (-1 or 1)": not 0 between them. */
  static void p22_qIsMinus1Or1(Check c) {
    Edges.within(c, -1, 1, Edges.NONE_SUCH, (x, v) -> tune(x, 2, v));
    Edges.refused(c, "0", Edges.NONE_SUCH, x -> tune(x, 2, 0));
    // y is 1, then P, then P P - Q
    DropPens x = new DropPens();
    for (int q = -1; q <= 1; q += 2) {
      x.tones(2, q);
      c.due("LEFT with Q " + q, x.swing(row(1, 0, 0), 3, 3, 1), 2 + 4 - q);
    }
  }

  // ---- 23: swing ----

  /** "VOLTS (1 to 7 TICKS)". */
  static void p23_ticksAre1To7(Check c) {
    Edges.within(c, 1, 7, Edges.NONE_SUCH, (x, v) -> x.swing(0, v, 1, 2));
    DropPens x = new DropPens();
    for (int ticks = 1; ticks <= 7; ticks++) {
      c.due("WORK of " + ticks, x.swing(0, ticks, 1, 2), 2 * ticks);
    }
  }

  /** "thrown at TICK h (1 to all of them)". */
  static void p23_hIs1ToAllTicks(Check c) {
    for (int ticks = 1; ticks <= 7; ticks++) {
      int all = ticks;
      Edges.within(c, 1, all, Edges.NONE_SUCH, (x, v) -> x.swing(0, all, v, 0));
    }
  }

  /** "0 SPEED at h, 1 LEFT, 2 WORK .. or another what". */
  static void p23_whatIs0To2(Check c) {
    Edges.within(c, 0, 2, Edges.NONE_SUCH, (x, v) -> x.swing(0, 3, 1, v));
  }

  /** "VOLTS u (-2 to 2)", "three bits a TICK .. u and 2", "a u that is none such (5 to 7)". */
  static void p23_uIs0To4InItsBits(Check c) {
    for (int tick = 0; tick < 7; tick++) {
      int shift = 3 * tick;
      Edges.within(c, 0, 4, Edges.NONE_SUCH, (x, v) -> x.swing(v >= 0 && v < 8 ? v << shift : -1, 7, 1, 0));
      for (int none = 5; none <= 7; none++) {
        int bits = none << shift;
        Edges.refused(c, "TICK " + tick + ", " + none, Edges.NONE_SUCH, x -> x.swing(bits, 7, 7, 1));
      }
    }
    DropPens x = new DropPens();
    for (int u = -2; u <= 2; u++) {
      c.due("LEFT by " + u, x.swing(u + 2, 1, 1, 1), Math.abs(u));
      c.due("WORK by " + u, x.swing(u + 2, 1, 1, 2), Math.abs(u));
    }
  }

  /** "bits behind the row". */
  static void p23_bitsBehindTheRow(Check c) {
    for (int ticks = 1; ticks <= 7; ticks++) {
      int many = ticks;
      int last = 4 << (3 * (ticks - 1));
      DropPens x = new DropPens();
      c.taken("the highest bit of " + ticks, () -> x.swing(last, many, 1, 0));
      for (int bit = 3 * ticks; bit < 32; bit++) {
        int behind = 1 << bit;
        c.noneSuch("bit " + bit + " of " + ticks, () -> x.swing(behind, many, 1, 0));
      }
    }
  }

  /** "at rest x and y are 0", "x becomes y": so behind TICK 1 x is 0 still, and y shows there a TICK later. */
  static void p23_speedAtTheFirstTick(Check c) {
    DropPens x = new DropPens();
    for (int u = -2; u <= 2; u++) {
      c.due("at TICK 1", x.swing(row(u, 0), 2, 1, 0), 0);
      c.due("at TICK 2", x.swing(row(u, 0), 2, 2, 0), u);
    }
  }

  /** "LEFT: the amounts of x and y behind the last TICK, together; WORK: the amounts of VOLTS together". */
  static void p23_nothingAndTheMost(Check c) {
    DropPens x = new DropPens();
    x.tones(2, -1);
    int rest = row(0, 0, 0, 0, 0, 0, 0);
    c.due("no SPEED", x.swing(rest, 7, 7, 0), 0);
    c.due("no LEFT", x.swing(rest, 7, 7, 1), 0);
    c.due("no WORK", x.swing(rest, 7, 7, 2), 0);
    // y: 2, 6, 16, 40, 98, 238, 576
    int most = row(2, 2, 2, 2, 2, 2, 2);
    c.due("SPEED", x.swing(most, 7, 7, 0), 238);
    c.due("LEFT", x.swing(most, 7, 7, 1), 238 + 576);
    c.due("WORK", x.swing(most, 7, 7, 2), 14);
    int least = row(-2, -2, -2, -2, -2, -2, -2);
    c.due("SPEED the other way", x.swing(least, 7, 7, 0), -238);
    c.due("LEFT the other way", x.swing(least, 7, 7, 1), 238 + 576);
    c.due("WORK the other way", x.swing(least, 7, 7, 2), 14);
  }

  // ---- 24: push ----

  /** "IllegalArgumentException: TICKS". */
  static void p24_ticksAre1To7(Check c) {
    Edges.within(c, 1, 7, Edges.NONE_SUCH, (x, v) -> x.push(v, 1, 0, 10));
  }

  /** "IllegalArgumentException: .. h". */
  static void p24_hIs1ToAllTicks(Check c) {
    for (int ticks = 1; ticks <= 7; ticks++) {
      int all = ticks;
      Edges.within(c, 1, all, Edges.NONE_SUCH, (x, v) -> x.push(all, v, 0, 10));
    }
  }

  /** "SPEED (-1,000,000 to 1,000,000)". */
  static void p24_speedIsAMillionEitherWay(Check c) {
    Edges.within(c, -1000000, 1000000, Edges.NONE_SUCH, (x, v) -> x.push(7, 7, v, 10));
    DropPens x = new DropPens();
    c.due("there is none so fast", x.push(7, 7, 1000000, 10), -3);
    c.due("nor so slow", x.push(7, 7, -1000000, 10), -3);
  }

  /** "what 10 LEFT, 11 WORK, or VOLTS of a TICK (0 to 6) .. or another what". */
  static void p24_whatIs0To6Or10Or11(Check c) {
    Edges.within(c, 0, 6, Edges.NONE_SUCH, (x, v) -> x.push(7, 1, 0, v));
    Edges.within(c, 10, 11, Edges.NONE_SUCH, (x, v) -> x.push(7, 1, 0, v));
    Edges.refused(c, "8", Edges.NONE_SUCH, x -> x.push(7, 1, 0, 8));
    Edges.refused(c, "7 of 3 TICKS", Edges.NONE_SUCH, x -> x.push(3, 1, 0, 7));
  }

  /** "-3: .. no such TICK in it". */
  static void p24_noSuchTickInIt(Check c) {
    DropPens x = new DropPens();
    for (int ticks = 1; ticks <= 7; ticks++) {
      for (int tick = 0; tick < 7; tick++) {
        c.due("TICK " + tick + " of " + ticks, x.push(ticks, 1, 0, tick), tick < ticks ? 0 : -3);
      }
    }
  }

  /** "-3: there is none". */
  static void p24_thereIsNone(Check c) {
    DropPens x = new DropPens();
    for (int speed = -1; speed <= 1; speed += 2) {
      for (int what : new int[] {0, 6, 10, 11}) {
        c.due("at TICK 1, what " + what, x.push(7, 1, speed, what), -3);
      }
    }
    c.due("at TICK 1, SPEED 0", x.push(7, 1, 0, 10), 0);
    c.noneSuch("none, and another what", () -> x.push(7, 1, 1, 9));
  }

  /** The fastest and the slowest that seven TICKS throw. */
  static void p24_theFastestAndOneMore(Check c) {
    DropPens x = new DropPens();
    x.tones(2, -1);
    for (int way = -1; way <= 1; way += 2) {
      c.due("one more", x.push(7, 7, 239 * way, 10), -3);
      // y is 98 and 238 ahead of the last TICK, then 2 times 238 and 98, less 2
      c.due("LEFT", x.push(7, 7, 238 * way, 10), 238 + 572);
      c.due("WORK", x.push(7, 7, 238 * way, 11), 14);
      for (int tick = 0; tick < 7; tick++) {
        c.due("TICK " + tick, x.push(7, 7, 238 * way, tick), tick < 6 ? 2 * way : -2 * way);
      }
    }
    DropPens y = new DropPens();
    c.due("two TICKS: y behind the first is 2 at most", y.push(2, 2, 2, 0), 2);
    c.due("not 3", y.push(2, 2, 3, 0), -3);
    c.due("-2", y.push(2, 2, -2, 0), -2);
    c.due("not -3", y.push(2, 2, -3, 0), -3);
  }

  /** Asked in turn for other TICKS, h, SPEEDS and tones, each answer is its own. */
  static void p24_askedInTurn(Check c) {
    DropPens x = new DropPens();
    for (int turn = 0; turn < 2; turn++) {
      x.tones(1, 1);
      // (1 -1 1) leaves nothing
      c.due("3 TICKS, h 2, SPEED 1", x.push(3, 2, 1, 10), 0);
      c.due("VOLTS of TICK 2", x.push(3, 2, 1, 2), 1);
      c.due("another h", x.push(3, 3, 1, 10), 1);
      c.due("the first h", x.push(3, 2, 1, 10), 0);
      c.due("fewer TICKS", x.push(2, 2, 1, 10), 1);
      c.due("as many again", x.push(3, 2, 1, 11), 3);
      c.due("another SPEED", x.push(3, 2, 0, 11), 0);
      c.due("none", x.push(3, 2, 3, 11), -3);
      c.due("h 1, none", x.push(3, 1, 1, 11), -3);
      c.due("the first again", x.push(3, 2, 1, 11), 3);
      x.tones(1, -1);
      c.due("other tones", x.push(3, 2, 1, 2), -1);
    }
  }

  private static void volts(Check c, DropPens x, int speed, int... want) {
    for (int tick = 0; tick < want.length; tick++) {
      c.due("SPEED " + speed + ", TICK " + tick, x.push(want.length, want.length, speed, tick), want[tick]);
    }
  }

  /** "the one with the least LEFT; of these of the least WORK". */
  static void p24_leastLeftAheadOfLeastWork(Check c) {
    DropPens x = new DropPens();
    x.tones(2, 1);
    // of (1 0 -2), (2 -2 -2), (0 2 -2) y is left 1, 0, 2 beside x 2
    volts(c, x, 2, 2, -2, -2);
    c.due("LEFT", x.push(3, 3, 2, 10), 2);
    c.due("WORK", x.push(3, 3, 2, 11), 6);
    // with P 1 and Q 1 (1 0 0) and (0 1 -1) leave no y beside x 1
    x.tones(1, 1);
    volts(c, x, 1, 1, 0, 0);
    c.due("LEFT", x.push(3, 3, 1, 10), 1);
    c.due("WORK", x.push(3, 3, 1, 11), 1);
  }

  /** "of these the first (TICK by TICK, from -2 on)". */
  static void p24_ofTheseTheFirst(Check c) {
    DropPens x = new DropPens();
    x.tones(2, 1);
    // (0 1 -2) and (1 -1 -1): LEFT 1, WORK 3 both
    volts(c, x, 1, 0, 1, -2);
    c.due("LEFT", x.push(3, 3, 1, 10), 1);
    c.due("WORK", x.push(3, 3, 1, 11), 3);
    // (-1 1 1) and (0 -1 2)
    volts(c, x, -1, -1, 1, 1);
  }
}
