import java.util.HashMap;
import java.util.Map;
import java.util.Random;

/** Promises 22 to 24: tones, SPEED, LEFT, WORK, the BEST PUSH. */
public final class ChamberTest {
  private static final Check C = new Check("ChamberTest");

  public static void main(String[] args) {
    tones();
    swing();
    push();
    allPushes();
    for (int ticks = 1; ticks <= 5; ticks++) {
      for (int p = -2; p <= 2; p++) {
        everyPush(ticks, p, -1);
        everyPush(ticks, p, 1);
      }
    }
    C.end();
  }

  private static int row(int... volts) {
    int row = 0;
    for (int t = volts.length - 1; t >= 0; t--) {
      row = row * 8 + volts[t] + 2;
    }
    return row;
  }

  private static long retune(DropPens x, int p, int q) {
    x.tones(p, q);
    return 0;
  }

  private static void tones() {
    DropPens x = new DropPens();
    C.noneSuch("22: P 3", () -> retune(x, 3, 1));
    C.noneSuch("22: P -3", () -> retune(x, -3, 1));
    C.noneSuch("22: Q 0", () -> retune(x, 1, 0));
    C.noneSuch("22: Q 2", () -> retune(x, 1, 2));
    C.noneSuch("22: Q -2", () -> retune(x, 1, -2));
    // y: 1, then P, then P P - Q
    C.due("22: P 1, Q 1 at first", x.swing(row(1, 0, 0), 3, 3, 1), 1);
    x.tones(2, -1);
    C.due("22: P 2, Q -1", x.swing(row(1, 0, 0), 3, 3, 1), 2 + 5);
    x.tones(-2, 1);
    C.due("22: P -2, Q 1, SPEED", x.swing(row(1, 0, 0), 3, 3, 0), -2);
    C.due("22: P -2, Q 1, LEFT", x.swing(row(1, 0, 0), 3, 3, 1), 2 + 3);
    // y: 2, then -4 and 2, then 4 less 2 and -2
    C.due("24: as tuned", x.push(3, 3, -2, 0), 2);
    C.due("24: as tuned, LEFT", x.push(3, 3, -2, 10), 2);
    C.due("24: as tuned, WORK", x.push(3, 3, -2, 11), 6);
    x.tones(0, 1);
    C.due("24: tuned otherwise, WORK", x.push(3, 3, -2, 11), 2);
    C.due("24: tuned otherwise", x.push(3, 3, -2, 0), 0);
  }

  private static void swing() {
    DropPens x = new DropPens();
    int r = row(2, -1, 0, 1, -2, 2, 1);
    // y: 2, 1, -1, -1, -2, 1, 4
    int[] speeds = {0, 2, 1, -1, -1, -2, 1};
    for (int h = 1; h <= 7; h++) {
      C.due("23: SPEED at " + h, x.swing(r, 7, h, 0), speeds[h - 1]);
      C.due("23: LEFT", x.swing(r, 7, h, 1), 5);
      C.due("23: WORK", x.swing(r, 7, h, 2), 9);
    }
    C.due("23: one TICK", x.swing(row(-2), 1, 1, 1), 2);
    C.noneSuch("23: TICKS 0", () -> x.swing(0, 0, 1, 0));
    C.noneSuch("23: TICKS 8", () -> x.swing(0, 8, 1, 0));
    C.noneSuch("23: TICKS far", () -> x.swing(0, Integer.MIN_VALUE, 1, 0));
    C.noneSuch("23: h 0", () -> x.swing(0, 3, 0, 0));
    C.noneSuch("23: h 4", () -> x.swing(0, 3, 4, 0));
    C.noneSuch("23: what 3", () -> x.swing(0, 3, 1, 3));
    C.noneSuch("23: what -1", () -> x.swing(0, 3, 1, -1));
    for (int u = 5; u < 8; u++) {
      int none = u;
      C.noneSuch("23: u " + u, () -> x.swing(none * 64, 3, 1, 0));
    }
    C.noneSuch("23: bits behind the row", () -> x.swing(1 << 9, 3, 1, 0));
    C.noneSuch("23: a bit far behind it", () -> x.swing(1 << 21, 7, 1, 0));
    C.noneSuch("23: the highest bit", () -> x.swing(Integer.MIN_VALUE, 7, 1, 0));
  }

  private static void push() {
    DropPens x = new DropPens();
    C.due("24: nothing is needed", x.push(7, 1, 0, 10), 0);
    C.due("24: no WORK", x.push(7, 1, 0, 11), 0);
    C.due("24: VOLTS", x.push(7, 1, 0, 6), 0);
    C.due("24: h 1 has no SPEED but 0", x.push(7, 1, 1, 10), -3);
    C.due("24: none: WORK", x.push(7, 1, 1, 11), -3);
    C.due("24: none: VOLTS", x.push(7, 1, 1, 0), -3);
    C.due("24: no such TICK", x.push(3, 2, 1, 3), -3);
    C.due("24: too fast", x.push(7, 7, 1000000, 10), -3);
    C.due("24: too slow", x.push(7, 7, -1000000, 10), -3);
    C.noneSuch("24: SPEED above", () -> x.push(7, 7, 1000001, 10));
    C.noneSuch("24: SPEED below", () -> x.push(7, 7, -1000001, 10));
    C.noneSuch("24: TICKS 0", () -> x.push(0, 1, 0, 10));
    C.noneSuch("24: TICKS 8", () -> x.push(8, 1, 0, 10));
    C.noneSuch("24: h 0", () -> x.push(7, 0, 0, 10));
    C.noneSuch("24: h 8", () -> x.push(7, 8, 0, 10));
    C.noneSuch("24: what -1", () -> x.push(7, 1, 0, -1));
    C.noneSuch("24: what 7", () -> x.push(7, 1, 0, 7));
    C.noneSuch("24: what 9", () -> x.push(7, 1, 0, 9));
    C.noneSuch("24: what 12", () -> x.push(7, 1, 0, 12));
  }

  /** All rows are tried for many SPEEDS; so is the swing of the push that is found. */
  private static void allPushes() {
    Random random = new Random(24);
    for (int i = 0; i < 400; i++) {
      DropPens x = new DropPens();
      Plain y = new Plain();
      int p = random.nextInt(5) - 2;
      int q = random.nextBoolean() ? 1 : -1;
      x.tones(p, q);
      y.tones(p, q);
      int ticks = i % 20 == 0 ? 7 : 1 + random.nextInt(5);
      int h = 1 + random.nextInt(ticks);
      int speed = h == 1 ? 0 : random.nextInt(9) - 4;
      String name = "24: P " + p + " Q " + q + " TICKS " + ticks + " h " + h + " SPEED " + speed;
      int[] volts = new int[ticks];
      int left = y.push(ticks, h, speed, 10);
      C.due(name + " LEFT", x.push(ticks, h, speed, 10), left);
      C.due(name + " WORK", x.push(ticks, h, speed, 11), y.push(ticks, h, speed, 11));
      for (int t = 0; t < ticks; t++) {
        volts[t] = y.push(ticks, h, speed, t);
        C.due(name + " TICK " + t, x.push(ticks, h, speed, t), volts[t]);
      }
      if (left != -3) {
        C.due(name + " swings so", x.swing(row(volts), ticks, h, 0), speed);
        C.due(name + " leaves so", x.swing(row(volts), ticks, h, 1), left);
      }
    }
  }

  /** Every h and every SPEED of some TICKS: each row is swung once, and the best so far is kept. */
  private static void everyPush(int ticks, int p, int q) {
    Map<Integer, int[]> best = new HashMap<>();
    int rows = 1;
    for (int t = 0; t < ticks; t++) {
      rows *= 5;
    }
    for (int r = 0; r < rows; r++) {
      // LEFT, WORK, then VOLTS
      int[] push = new int[2 + ticks];
      int[] speeds = swung(push, r, ticks, p, q);
      for (int h = 1; h <= ticks; h++) {
        int[] was = best.get(1000 * speeds[h - 1] + h);
        if (was == null || push[0] < was[0] || (push[0] == was[0] && push[1] < was[1])) {
          best.put(1000 * speeds[h - 1] + h, push);
        }
      }
    }
    for (int speed = -45; speed <= 45; speed++) {
      DropPens x = new DropPens();
      x.tones(p, q);
      for (int h = 1; h <= ticks; h++) {
        int[] due = best.get(1000 * speed + h);
        String name = "24: P " + p + " Q " + q + " TICKS " + ticks + " h " + h + " SPEED " + speed;
        C.due(name + " LEFT", x.push(ticks, h, speed, 10), due == null ? -3 : due[0]);
        C.due(name + " WORK", x.push(ticks, h, speed, 11), due == null ? -3 : due[1]);
        for (int t = 0; t < ticks; t++) {
          C.due(name + " TICK " + t, x.push(ticks, h, speed, t), due == null ? -3 : due[2 + t]);
        }
      }
    }
  }

  /** x behind each TICK of the row with number r, in the order of rows from -2 on. */
  private static int[] swung(int[] push, int r, int ticks, int p, int q) {
    int rest = r;
    for (int t = ticks - 1; t >= 0; t--) {
      push[2 + t] = rest % 5 - 2;
      rest /= 5;
    }
    int[] speeds = new int[ticks];
    int x = 0;
    int y = 0;
    for (int t = 0; t < ticks; t++) {
      int then = p * y - q * x + push[2 + t];
      x = y;
      y = then;
      speeds[t] = x;
      push[1] += Math.abs(push[2 + t]);
    }
    push[0] = Math.abs(x) + Math.abs(y);
    return speeds;
  }
}
