import java.util.ArrayList;
import java.util.HashMap;
import java.util.List;
import java.util.Map;
import java.util.Random;

/** Promises 25 to 29: TEST PRINTS. */
public final class ProbeTest {
  private static final Check C = new Check("ProbeTest");

  public static void main(String[] args) {
    search();
    tests();
    fewest();
    besidePlain();
    for (int n = 2; n <= 8; n++) {
      for (int d = 0; d <= 2; d++) {
        everyState(n, d);
      }
    }
    C.end();
  }

  private static void search() {
    DropPens x = new DropPens();
    C.noState("26: no search", () -> x.test(0, 0, true));
    C.noState("26: no search ahead of no RUN", () -> x.test(5, 0, true));
    C.noState("27: no search", () -> x.dead(-1));
    C.noState("27: no search ahead of no HOLE", () -> x.dead(99));
    C.noState("28: no search", () -> x.fewest());
    C.noState("29: no search", () -> x.next());
    C.noneSuch("25: n 1", () -> x.search(1, 1));
    C.noneSuch("25: n 9", () -> x.search(9, 1));
    C.noneSuch("25: d -1", () -> x.search(4, -1));
    C.noneSuch("25: d 3", () -> x.search(4, 3));
    C.noState("28: still no search", () -> x.fewest());
    for (int n = 2; n <= 8; n++) {
      C.due("25: d 0", x.search(n, 0), 1);
      C.due("25: d 1", x.search(n, 1), 1 + n);
      C.due("25: d 2", x.search(n, 2), 1 + n + n * (n - 1) / 2);
      C.due("27: all", x.dead(-1), 1 + n + n * (n - 1) / 2);
      C.due("27: the last HOLE", x.dead(n - 1), n);
    }
  }

  private static void tests() {
    DropPens x = new DropPens();
    x.search(4, 2);
    C.due("26: broken", x.test(1, 2, true), 2 + 5);
    C.due("27: HOLE 0", x.dead(0), 2);
    C.due("27: HOLE 1", x.dead(1), 4);
    C.due("26: whole", x.test(0, 1, false), 2);
    C.due("27: HOLE 1 is fine", x.dead(1), 0);
    C.due("27: HOLE 2", x.dead(2), 2);
    C.due("27: HOLE 3", x.dead(3), 1);
    C.noneSuch("26: last 4", () -> x.test(0, 4, true));
    C.noneSuch("26: first -1", () -> x.test(-1, 0, true));
    C.noneSuch("26: first behind last", () -> x.test(2, 1, true));
    C.noneSuch("26: far", () -> x.test(Integer.MIN_VALUE, Integer.MAX_VALUE, true));
    C.noneSuch("27: HOLE 4", () -> x.dead(4));
    C.noneSuch("27: HOLE -2", () -> x.dead(-2));
    C.due("53: TOLD", x.count(3), 2);
    C.due("26: against what was seen", x.test(2, 2, false), 0);
    C.due("28: none is left", x.fewest(), -1);
    C.due("29: none is left", x.next(), -1);
    for (int i = 3; i < 20; i++) {
      C.due("26: still TOLD", x.test(0, 0, true), 0);
    }
    C.due("53: 20", x.count(3), 20);
    C.due("26: 20 were TOLD", x.test(0, 0, true), -1);
    C.noneSuch("26: no RUN, though 20 were TOLD", () -> x.test(0, 9, true));
    C.noneSuch("25: none such", () -> x.search(0, 0));
    C.due("53: it stays", x.count(3), 20);
    C.due("25: anew", x.search(3, 1), 4);
    C.due("53: none TOLD", x.count(3), 0);
    C.due("26: anew", x.test(0, 2, true), 3);
  }

  private static void fewest() {
    DropPens x = new DropPens();
    x.search(8, 0);
    C.due("28: one set alone", x.fewest(), 0);
    C.due("29: nothing to test", x.next(), -1);
    x.search(8, 2);
    C.due("28: 37 sets are too many for 5", x.fewest(), -1);
    C.due("29: too many", x.next(), -1);
    x.search(3, 1);
    C.due("28: 4 sets in 2", x.fewest(), 2);
    C.due("29: 2 and 2", x.next(), 1);
    x.test(0, 2, true);
    C.due("28: 3 sets", x.fewest(), 2);
    C.due("29: the first HOLE", x.next(), 0);
    x.test(0, 0, false);
    C.due("28: 2 sets", x.fewest(), 1);
    C.due("29: a RUN with 0 that parts them", x.next(), 1);
    x.search(8, 1);
    C.due("28: 9 sets", x.fewest(), 4);
    x.test(7, 7, false);
    C.due("28: 8 sets", x.fewest(), 3);
    C.due("29: 0 to 3", x.next(), 3);
    x.test(0, 3, false);
    C.due("29: 0 to 5", x.next(), 5);
    x.test(0, 5, true);
    C.due("29: 0 to 4", x.next(), 4);
  }

  private static void besidePlain() {
    Random random = new Random(28);
    for (int i = 0; i < 100; i++) {
      DropPens x = new DropPens();
      Plain y = new Plain();
      int n = 2 + random.nextInt(7);
      int d = random.nextInt(3);
      C.due("25: sets", x.search(n, d), y.search(n, d));
      for (int t = 0; t < 5; t++) {
        C.due("28: n " + n + " d " + d, x.fewest(), y.fewest());
        C.due("29: n " + n + " d " + d, x.next(), y.next());
        int first = random.nextInt(n);
        int last = first + random.nextInt(n - first);
        boolean broken = random.nextBoolean();
        C.due("26: left", x.test(first, last, broken), y.test(first, last, broken));
        for (int hole = -1; hole < n; hole++) {
          C.due("27: dead", x.dead(hole), y.dead(hole));
        }
      }
    }
  }

  private static List<Integer> sets;
  private static Map<Long, Integer> known;

  private static boolean breaks(int set, int first, int last) {
    for (int hole = first; hole <= last; hole++) {
      if ((set >> hole & 1) == 1) {
        return true;
      }
    }
    return false;
  }

  private static long left(long state, int first, int last, boolean broken) {
    long stay = 0;
    for (int i = 0; i < sets.size(); i++) {
      stay |= (state >> i & 1) == 1 && breaks(sets.get(i), first, last) == broken ? 1L << i : 0;
    }
    return stay;
  }

  /** The least number of TESTS in the worst case, without any short cut. */
  private static int least(long state, int n) {
    if (Long.bitCount(state) <= 1) {
      return 0;
    }
    Integer was = known.get(state);
    if (was != null) {
      return was;
    }
    int best = 99;
    for (int first = 0; first < n; first++) {
      for (int last = first; last < n; last++) {
        best = Math.min(best, with(state, n, first, last));
      }
    }
    known.put(state, best);
    return best;
  }

  private static int with(long state, int n, int first, int last) {
    long broken = left(state, first, last, true);
    long whole = left(state, first, last, false);
    return broken == 0 || whole == 0 ? 99 : 1 + Math.max(least(broken, n), least(whole, n));
  }

  private static int firstRun(long state, int n) {
    int best = least(state, n);
    for (int run = 0; best > 0 && best <= 5; run++) {
      if (run / 8 <= run % 8 && run % 8 < n && with(state, n, run / 8, run % 8) == best) {
        return run;
      }
    }
    return -1;
  }

  /** Every lot of sets that TESTS can leave, each reached by the fewest TESTS. */
  private static void everyState(int n, int d) {
    sets = new ArrayList<>();
    for (int set = 0; set < 1 << n; set++) {
      if (Integer.bitCount(set) <= d) {
        sets.add(set);
      }
    }
    known = new HashMap<>();
    Map<Long, List<int[]>> ways = new HashMap<>();
    List<Long> states = new ArrayList<>();
    states.add((1L << sets.size()) - 1);
    ways.put(states.get(0), new ArrayList<>());
    for (int at = 0; at < states.size(); at++) {
      long state = states.get(at);
      List<int[]> way = ways.get(state);
      look(n, d, state, way);
      for (int run = 0; run < 64 * 2; run++) {
        int first = run / 2 / 8;
        int last = run / 2 % 8;
        if (first <= last && last < n) {
          long then = left(state, first, last, run % 2 == 1);
          if (!ways.containsKey(then)) {
            List<int[]> farther = new ArrayList<>(way);
            farther.add(new int[] {first, last, run % 2});
            ways.put(then, farther);
            states.add(then);
          }
        }
      }
    }
  }

  private static void look(int n, int d, long state, List<int[]> way) {
    DropPens x = new DropPens();
    x.search(n, d);
    for (int[] test : way) {
      x.test(test[0], test[1], test[2] == 1);
    }
    int many = Long.bitCount(state);
    int fewest = least(state, n);
    String name = "n " + n + " d " + d + " behind " + way.size() + " TESTS, " + Long.toBinaryString(state);
    C.due("27: " + name, x.dead(-1), many);
    C.due("28: " + name, x.fewest(), many == 0 || fewest > 5 ? -1 : fewest);
    C.due("29: " + name, x.next(), many == 0 ? -1 : firstRun(state, n));
  }
}
