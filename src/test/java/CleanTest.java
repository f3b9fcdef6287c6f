import java.util.Random;

/** Promises 30 to 32: NEW by DAYS, the PLAN, CLEANED. */
public final class CleanTest {
  private static final Check C = new Check("CleanTest");

  public static void main(String[] args) {
    days();
    plans();
    clean();
    besidePlain();
    C.end();
  }

  private static void days() {
    DropPens x = new DropPens();
    C.due("30: was", x.bad(0, 8), 0);
    C.due("30: was again", x.bad(0, 1), 8);
    C.due("30: the last DAY", x.bad(9, 3), 0);
    C.noneSuch("30: DAY -1", () -> x.bad(-1, 0));
    C.noneSuch("30: DAY 10", () -> x.bad(10, 0));
    C.noneSuch("30: 9", () -> x.bad(0, 9));
    C.noneSuch("30: -1", () -> x.bad(0, -1));
    C.due("30: stays", x.bad(0, 0), 1);
  }

  private static void plans() {
    DropPens x = new DropPens();
    C.due("31: nothing bad", x.plan(10, -1), 0);
    C.due("31: nothing done", x.plan(10, 9), 0);
    C.due("31: no INK", x.plan(10, -2), 0);
    x.bad(0, 8);
    C.due("31: FLUSH at once", x.plan(10, 0), 2);
    C.due("31: its cost", x.plan(10, -1), 9);
    C.due("31: its INK", x.plan(10, -2), 9);
    C.due("31: nothing then", x.plan(10, 1), 0);
    C.due("31: no such DAY in it", x.plan(3, 3), -1);
    C.due("31: DAY 9 of 9", x.plan(9, 9), -1);
    x.set(5, 0);
    C.due("31: bad ones cost nothing", x.plan(10, -1), 0);
    C.due("31: then nothing is first", x.plan(10, 0), 0);
    x.set(5, 3);
    x.set(3, 6);
    x.set(4, 100);
    x.bad(0, 2);
    C.due("31: as dear, nothing is first", x.plan(1, 0), 0);
    C.due("31: cost", x.plan(1, -1), 6);
    C.due("31: two DAYS: WIPE at once", x.plan(2, 0), 1);
    C.due("31: two DAYS: cost", x.plan(2, -1), 6);
    x.set(3, 0);
    x.set(4, 0);
    C.due("31: WIPE is ahead of FLUSH", x.plan(1, 0), 1);
    DropPens y = new DropPens();
    y.set(3, 100);
    y.set(4, 100);
    y.set(5, 1);
    for (int day = 0; day < 10; day++) {
      y.bad(day, 8);
    }
    C.due("31: three DAYS, nothing", y.plan(3, -1), 8 + 16 + 24);
    C.due("31: 24 at most are bad", y.plan(4, -1), 8 + 16 + 24 + 24);
    C.noneSuch("31: n 0", () -> x.plan(0, 0));
    C.noneSuch("31: n 11", () -> x.plan(11, 0));
    C.noneSuch("31: what -3", () -> x.plan(1, -3));
    C.noneSuch("31: what 10", () -> x.plan(10, 10));
  }

  private static void clean() {
    DropPens x = new DropPens();
    x.bad(0, 8);
    x.fill(8);
    C.due("32: too little", x.clean(5), -1);
    C.due("21: nothing done", x.ink(1), 8);
    x.fill(1);
    C.due("32: cleaned", x.clean(5), 9);
    C.due("21: TANK", x.ink(1), 0);
    C.due("21: cleaned off", x.ink(4), 9);
    C.due("21: not spilt", x.ink(3), 0);
    C.due("30: NEW stays", x.bad(0, 0), 8);
    C.due("32: nothing to do", x.clean(10), 0);
    C.noneSuch("32: n 0", () -> x.clean(0));
    C.noneSuch("32: n 11", () -> x.clean(11));
    C.noneSuch("32: far", () -> x.clean(Integer.MAX_VALUE));
  }

  private static void besidePlain() {
    Random random = new Random(31);
    for (int i = 0; i < 400; i++) {
      DropPens x = new DropPens();
      Plain y = new Plain();
      for (int day = 0; day < 10; day++) {
        int v = random.nextInt(random.nextBoolean() ? 9 : 4);
        x.bad(day, v);
        y.bad(day, v);
      }
      for (int what = 3; what < 6 && i % 4 > 0; what++) {
        int v = random.nextInt(i % 4 == 1 ? 101 : 12);
        x.set(what, v);
        y.set(what, v);
      }
      int n = i % 20 == 0 ? 10 : 1 + random.nextInt(7);
      for (int what = -2; what < 10; what++) {
        C.due("31: run " + i + " n " + n + " what " + what, x.plan(n, what), y.plan(n, what));
      }
    }
  }
}
