import java.util.ArrayList;
import java.util.List;
import java.util.Random;

/** Promises 12 to 14: THE WAY, its cost, what is given. */
public final class DealTest {
  private static final Check C = new Check("DealTest");

  public static void main(String[] args) {
    ordinary();
    order();
    wrongInputs();
    Random random = new Random(12);
    for (int i = 0; i < 1500; i++) {
      allWaysTried(random, i);
    }
    C.end();
  }

  private static void ordinary() {
    DropPens x = new DropPens();
    x.wish(16 * 4 + 2, 3);
    C.due("12: no PASS: all MISSING", x.cost(2), 27);
    C.due("14: MISSING", x.way(2, 2), 3);
    x.pass(0);
    C.due("12: three HOLES for three UNITS", x.cost(2), 2);
    C.due("13: from above", x.given(2, 0, 3), 4);
    C.due("13: in its ROW", x.given(2, 0, 4), 4);
    C.due("13: from below", x.given(2, 0, 5), 4);
    C.due("13: too far", x.given(2, 0, 2), -1);
    C.due("13: another COLUMN", x.given(3, 0, 4), -1);
    C.due("14: given", x.way(2, 0), 3);
    C.due("14: HIDDEN", x.way(2, 1), 2);
    C.due("14: MISSING none", x.way(2, 2), 0);
    C.due("14: can be thrown", x.way(2, 3), 24);
    x.shut(5, true);
    C.due("12: one is MISSING", x.cost(2), 10);
    x.set(0, 2);
    C.due("12: or comes from afar", x.cost(2), 5);
    C.due("13: not from 2 above, for none is ahead there", x.given(2, 0, 2), -1);
    C.due("13: from 2 below", x.given(2, 0, 6), 4);
    x.wish(16 * 23 + 15, 1);
    x.shut(23, true);
    C.due("12: the other COLUMN", x.cost(15), 1);
    C.due("12: all together", x.cost(-1), 6);
    C.due("14: all together, given", x.way(-1, 0), 4);
    C.due("14: all together, HIDDEN", x.way(-1, 1), 3);
    C.due("14: all together, MISSING", x.way(-1, 2), 0);
    C.due("14: all together, can be thrown", x.way(-1, 3), 22 * 16);
    C.due("13: SHUT", x.given(15, 0, 23), -1);
    C.due("13: hides it", x.given(15, 0, 22), 23);
    x.set(1, 1);
    C.due("12: MISSING is as dear as HIDDEN", x.cost(15), 1);
    C.due("13: then no DROP is ahead", x.given(15, 0, 22), -1);
    C.due("14: MISSING", x.way(15, 2), 1);
  }

  /** Of ways of one cost the first: none given is ahead, else the least UNIT. */
  private static void order() {
    DropPens x = new DropPens();
    x.pass(0);
    x.pass(0);
    x.wish(0, 1);
    C.due("13: the later PASS has it", x.given(0, 1, 0), 0);
    C.due("13: the first has none", x.given(0, 0, 0), -1);
    x.wish(0, 2);
    C.due("13: both", x.given(0, 0, 0), 0);
    DropPens y = new DropPens();
    y.pass(0);
    y.shut(5, true);
    y.wish(16 * 5, 1);
    C.due("12: above or below", y.cost(0), 1);
    C.due("13: the one above is first, so it has none", y.given(0, 0, 4), -1);
    C.due("13: the one below", y.given(0, 0, 6), 5);
    DropPens z = new DropPens();
    z.pass(0);
    for (int hole = 0; hole < 24; hole++) {
      z.shut(hole, hole != 5);
    }
    z.wish(16 * 4, 1);
    z.wish(16 * 6, 1);
    C.due("12: one DROP for two", z.cost(0), 10);
    C.due("13: the least UNIT", z.given(0, 0, 5), 4);
    z.shut(6, false);
    z.shut(5, true);
    z.shut(4, false);
    z.lean(4, 2);
    C.due("13: by HOLES in one ROW: the first has the first", z.given(0, 0, 4), -1);
    C.due("13: and the later one its own", z.given(0, 0, 6), 6);
  }

  private static void wrongInputs() {
    DropPens x = new DropPens();
    x.pass(0);
    C.noHole("12: COLUMN 16", () -> x.cost(16));
    C.noHole("12: COLUMN -2", () -> x.cost(-2));
    C.noHole("13: COLUMN 16", () -> x.given(16, 0, 0));
    C.noHole("13: COLUMN -1", () -> x.given(-1, 0, 0));
    C.noHole("13: HOLE 24", () -> x.given(0, 0, 24));
    C.noHole("13: HOLE -1", () -> x.given(0, 0, -1));
    C.noPass("13: PASS 1", () -> x.given(0, 1, 0));
    C.noPass("13: PASS -1", () -> x.given(0, -1, 0));
    C.noHole("13: COLUMN ahead of PASS", () -> x.given(16, 1, 0));
    C.noHole("13: HOLE ahead of PASS", () -> x.given(0, 1, 24));
    C.noHole("14: COLUMN 16", () -> x.way(16, 0));
    C.noHole("14: COLUMN -2", () -> x.way(-2, 0));
    C.noneSuch("14: what 4", () -> x.way(0, 4));
    C.noneSuch("14: what -1", () -> x.way(-1, -1));
    C.noHole("14: COLUMN ahead of what", () -> x.way(16, 4));
    x.clear();
    C.noPass("13: PASS gone", () -> x.given(0, 0, 0));
  }

  private static List<int[]> drops;
  private static List<Integer> units;
  private static int reach;
  private static int miss;
  private static int best;
  private static int[] bestGiven;

  /** Every WAY, in the order in which the document puts them. */
  private static void tryAll(int drop, int unit, int cost, int[] given) {
    if (drop == drops.size()) {
      int all = cost;
      for (int g : given) {
        all -= g >= 0 ? miss : 0;
      }
      if (all < best) {
        best = all;
        bestGiven = given.clone();
      }
      return;
    }
    given[drop] = -1;
    tryAll(drop + 1, unit, cost, given);
    for (int u = unit; u < units.size(); u++) {
      int away = Math.abs(units.get(u) - drops.get(drop)[0]);
      if (away <= reach) {
        given[drop] = u;
        tryAll(drop + 1, u + 1, cost + away * away, given);
      }
    }
    given[drop] = -1;
  }

  private static void allWaysTried(Random random, int run) {
    DropPens x = new DropPens();
    reach = random.nextInt(3);
    miss = random.nextInt(3) == 0 ? 1 + random.nextInt(5) : 1 + random.nextInt(12);
    x.set(0, reach);
    x.set(1, miss);
    int passes = 1 + random.nextInt(3);
    int[] offset = new int[passes];
    for (int p = 0; p < passes; p++) {
      offset[p] = random.nextInt(3) - 1;
      x.pass(offset[p]);
    }
    int base = random.nextInt(3) == 0 ? 0 : random.nextInt(19);
    drops = new ArrayList<>();
    units = new ArrayList<>();
    for (int hole = 0; hole < 24; hole++) {
      boolean open = hole >= base && hole < base + 5 && random.nextInt(3) > 0;
      int lean = random.nextInt(3) == 0 ? random.nextInt(5) - 2 : 0;
      x.lean(hole, lean);
      x.shut(hole, !open);
      for (int p = 0; open && p < passes; p++) {
        int row = hole + offset[p] + lean;
        if (row >= 0 && row < 24) {
          drops.add(new int[] {row, p, hole});
        }
      }
    }
    drops.sort((a, b) -> a[0] != b[0] ? a[0] - b[0] : a[1] != b[1] ? a[1] - b[1] : a[2] - b[2]);
    int column = random.nextInt(16);
    for (int row = Math.max(0, base - 2); row < Math.min(24, base + 7) && units.size() < 4; row++) {
      int v = random.nextInt(2) == 0 ? 0 : random.nextInt(Math.min(4, 6 - units.size()));
      x.wish(16 * row + column, v);
      for (int i = 0; i < v; i++) {
        units.add(row);
      }
    }
    if (drops.size() > 11) {
      return;
    }
    best = Integer.MAX_VALUE;
    tryAll(0, 0, units.size() * miss, new int[drops.size()]);
    C.due("12: run " + run, x.cost(column), best);
    C.due("12: run " + run + " all", x.cost(-1), best);
    int given = 0;
    int hidden = 0;
    for (int i = 0; i < drops.size(); i++) {
      int[] d = drops.get(i);
      int row = bestGiven[i] < 0 ? -1 : units.get(bestGiven[i]);
      C.due("13: run " + run + " PASS " + d[1] + " HOLE " + d[2], x.given(column, d[1], d[2]), row);
      given += row >= 0 ? 1 : 0;
      hidden += row >= 0 && row != d[0] ? 1 : 0;
    }
    C.due("14: given", x.way(column, 0), given);
    C.due("14: HIDDEN", x.way(column, 1), hidden);
    C.due("14: MISSING", x.way(column, 2), units.size() - given);
    C.due("14: can be thrown", x.way(column, 3), drops.size());
  }
}
