import java.util.Random;

/** Promises 44 to 47: TOLLS, BOUND, PROVED, CLIMB. */
public final class TollTest {
  private static final Check C = new Check("TollTest");

  public static void main(String[] args) {
    tolls();
    bounds();
    climb();
    besidePlain();
    C.end();
  }

  private static void tolls() {
    DropPens x = new DropPens();
    C.due("44: was", x.toll(23, 50), 0);
    C.due("44: was again", x.toll(23, 1), 50);
    C.noneSuch("44: 51", () -> x.toll(0, 51));
    C.noneSuch("44: -1", () -> x.toll(0, -1));
    C.noHole("44: ROW 24", () -> x.toll(24, 0));
    C.noHole("44: ROW -1", () -> x.toll(-1, 0));
    C.noHole("44: ROW ahead of TOLL", () -> x.toll(24, 99));
    C.due("44: stays", x.toll(23, 0), 1);
    C.noHole("45: COLUMN 16", () -> x.bound(16));
    C.noHole("45: COLUMN -1", () -> x.bound(-1));
    C.noHole("46: COLUMN 16", () -> x.proved(16) ? 1 : 0);
    C.noHole("46: COLUMN -1", () -> x.proved(-1) ? 1 : 0);
    C.noHole("47: COLUMN 16", () -> x.climb(16));
    C.noHole("47: COLUMN -1", () -> x.climb(-1));
  }

  private static void bounds() {
    DropPens x = new DropPens();
    x.wish(16 * 5 + 4, 2);
    C.due("45: no TOLL", x.bound(4), 0);
    C.due("46: the cost is 18", x.proved(4), false);
    x.toll(5, 4);
    C.due("45: two UNITS", x.bound(4), 8);
    x.toll(5, 50);
    C.due("45: worth MISS at most", x.bound(4), 18);
    C.due("46: that is the cost", x.proved(4), true);
    x.pass(0);
    x.toll(5, 4);
    // HOLE 5 takes 4, HOLES 4 and 6 take 3 each
    C.due("45: three DROPS reach it", x.bound(4), 8 - 4 - 3 - 3);
    x.shut(6, true);
    C.due("45: two DROPS reach it", x.bound(4), 1);
    C.due("46: the cost is 1", x.proved(4), true);
    x.set(0, 0);
    C.due("45: one DROP reaches it", x.bound(4), 4);
    x.set(0, 2);
    // HOLE 5: 4, HOLE 4: 3, HOLES 3 and 7: 0
    C.due("45: those 2 away take nothing", x.bound(4), 1);
    x.toll(5, 6);
    C.due("45: those 2 away take 2 each", x.bound(4), 12 - 6 - 5 - 2 - 2);
    x.toll(4, 50);
    C.due("45: a ROW without UNITS does not count", x.bound(4), -3);
    x.wish(16 * 4 + 4, 1);
    C.due("45: another COLUMN", x.bound(3), 0);
    C.due("46: nothing WISHED", x.proved(3), true);
    // ROW 4 is worth 9: HOLES 2 to 5 take 5, 8, 9, 8; HOLE 7 takes 2 of ROW 5
    C.due("45: the greatest counts", x.bound(4), 12 + 9 - 5 - 8 - 9 - 8 - 2);
  }

  private static void climb() {
    DropPens x = new DropPens();
    x.wish(16 * 5 + 4, 2);
    x.toll(20, 7);
    C.due("47: no DROPS: up to MISS", x.climb(4), 18);
    C.due("44: the least of the greatest", x.toll(5, 9), 9);
    C.due("44: a ROW without UNITS: the least", x.toll(20, 0), 0);
    C.due("46: then", x.proved(4), true);
    x.pass(0);
    x.shut(6, true);
    C.due("47: down again", x.climb(4), 1);
    C.due("44: 1 is the least that gives it", x.toll(5, 1), 1);
    C.due("46: then too", x.proved(4), true);
  }

  /** BOUND is never above the cost; CLIMB does what a plain one does. */
  private static void besidePlain() {
    Random random = new Random(47);
    int proved = 0;
    for (int i = 0; i < 250; i++) {
      DropPens x = new DropPens();
      Plain y = new Plain();
      x.set(0, i % 3);
      y.set(0, i % 3);
      int miss = 1 + random.nextInt(i % 2 == 0 ? 50 : 12);
      x.set(1, miss);
      y.set(1, miss);
      for (int p = random.nextInt(4); p > 0; p--) {
        int offset = random.nextInt(13) - 6;
        x.pass(offset);
        y.pass(offset);
      }
      for (int j = 0; j < 24; j++) {
        int lean = random.nextInt(3) == 0 ? random.nextInt(5) - 2 : 0;
        boolean shut = random.nextInt(4) == 0;
        int wish = random.nextInt(4);
        int toll = random.nextInt(51);
        x.lean(j, lean);
        y.lean(j, lean);
        x.shut(j, shut);
        y.shut(j, shut);
        x.wish(16 * j, wish);
        y.wish(16 * j, wish);
        x.toll(j, toll);
        y.toll(j, toll);
      }
      C.due("45: bound", x.bound(0), y.bound(0));
      C.due("45: never above", x.bound(0) <= x.cost(0), true);
      C.due("46: proved", x.proved(0), y.proved(0));
      C.due("47: climb", x.climb(0), y.climb(0));
      C.due("47: never above", x.bound(0) <= x.cost(0), true);
      C.due("46: proved then", x.proved(0), y.proved(0));
      proved += x.proved(0) ? 1 : 0;
      C.due("50: digest", x.digest(), y.digest());
      for (int row = 0; row < 24; row++) {
        C.due("44: toll", x.toll(row, 0), y.toll(row, 0));
      }
    }
    C.due("46: some are PROVED by climbing", proved > 20, true);
  }
}
