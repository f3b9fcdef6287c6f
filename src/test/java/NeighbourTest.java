import java.util.HashMap;
import java.util.Map;
import java.util.Random;

/** Promises 33 to 39: SHARES, LIMIT, PHASES, PACE, SLOW, WORST, BEST PHASES. */
public final class NeighbourTest {
  private static final Check C = new Check("NeighbourTest");

  public static void main(String[] args) {
    settings();
    paces();
    worst();
    best();
    wrongInputs();
    manyHoles();
    C.end();
  }

  private static void settings() {
    DropPens x = new DropPens();
    C.due("33: 1 away", x.share(1, 100), 30);
    C.due("33: 2 away", x.share(2, 0), 10);
    C.due("33: 3 away", x.share(3, 7), 0);
    C.due("33: was", x.share(1, 5), 100);
    C.noneSuch("33: 0 away", () -> x.share(0, 5));
    C.noneSuch("33: 4 away", () -> x.share(4, 5));
    C.noneSuch("33: 101", () -> x.share(1, 101));
    C.noneSuch("33: -1", () -> x.share(1, -1));
    C.due("33: stays", x.share(1, 5), 5);
    C.due("34: was", x.limit(0), 60);
    C.due("34: was again", x.limit(100), 0);
    C.noneSuch("34: 101", () -> x.limit(101));
    C.noneSuch("34: -1", () -> x.limit(-1));
    C.due("34: stays", x.limit(1), 100);
    C.due("35: was", x.phase(23, 2), 0);
    C.due("35: was again", x.phase(23, 1), 2);
    C.noneSuch("35: 3", () -> x.phase(23, 3));
    C.noneSuch("35: -1", () -> x.phase(23, -1));
    C.noHole("35: HOLE 24", () -> x.phase(24, 0));
    C.noHole("35: HOLE -1", () -> x.phase(-1, 0));
    C.noHole("35: HOLE ahead of PHASE", () -> x.phase(24, 9));
    C.due("35: stays", x.phase(23, 0), 1);
  }

  /** HOLES 4 to 8 throw in COLUMN 3. */
  private static DropPens five() {
    DropPens x = new DropPens();
    x.pass(0);
    x.pass(20);
    for (int row = 4; row <= 8; row++) {
      x.wish(16 * row + 3, 1);
    }
    return x;
  }

  private static void paces() {
    DropPens x = five();
    int[] want = {60, 30, 20, 30, 60};
    for (int i = 0; i < 5; i++) {
      C.due("36: HOLE " + (4 + i), x.pace(3, 0, 4 + i), want[i]);
    }
    C.due("36: not given", x.pace(3, 0, 3), -1);
    C.due("36: not given in this PASS", x.pace(3, 1, 4), -1);
    C.due("36: not given in this COLUMN", x.pace(2, 0, 4), -1);
    C.due("37: SLOW is below LIMIT", x.slow(3, 0), 3);
    x.limit(61);
    C.due("37: all", x.slow(3, 0), 5);
    C.due("37: another PASS", x.slow(3, 1), 0);
    C.due("37: another COLUMN", x.slow(0, 0), 0);
    x.share(3, 5);
    C.due("36: 3 away", x.pace(3, 0, 4), 55);
    x.share(3, 0);
    x.phase(5, 1);
    C.due("36: another PHASE is not TOGETHER", x.pace(3, 0, 4), 90);
    C.due("36: alone in its PHASE", x.pace(3, 0, 5), 100);
    x.phase(7, 1);
    C.due("36: 2 away in its PHASE", x.pace(3, 0, 5), 90);
    C.due("37: none is SLOW", x.slow(3, 0), 0);
    x.phase(5, 0);
    x.phase(7, 0);
    x.share(1, 100);
    C.due("36: 0 at least", x.pace(3, 0, 6), 0);
    C.due("37: all are SLOW", x.slow(3, 0), 5);
    x.limit(0);
    C.due("37: none is below 0", x.slow(3, 0), 0);
  }

  private static void worst() {
    DropPens x = new DropPens();
    C.due("38: in the middle", x.worst(10), 20);
    C.due("38: at the end", x.worst(23), 60);
    C.due("38: beside the end", x.worst(1), 30);
    x.shut(9, true);
    C.due("38: beside a SHUT one", x.worst(10), 50);
    C.due("38: a SHUT one", x.worst(9), 20);
    x.phase(10, 1);
    C.due("38: another PHASE", x.worst(10), 100);
    x.phase(12, 1);
    C.due("38: 2 away", x.worst(10), 90);
    x.share(2, 100);
    C.due("38: none left", x.worst(10), 0);
    C.due("38: 0 at least", x.worst(2), 0);
    C.noHole("38: HOLE 24", () -> x.worst(24));
    C.noHole("38: HOLE -1", () -> x.worst(-1));
  }

  private static void best() {
    DropPens x = five();
    // 4 and 8 are fast enough alone; 5 to 7 are helped by one of another PHASE
    C.due("39: none is SLOW then", x.phases(3, 0, -1), 0);
    C.due("39: sum", x.phases(3, 0, -2), 1);
    int[] want = {0, 0, 1, 0, 0};
    for (int i = 0; i < 5; i++) {
      C.due("39: HOLE " + (4 + i), x.phases(3, 0, 4 + i), want[i]);
    }
    C.due("39: not given", x.phases(3, 0, 3), -3);
    C.due("39: not given, the last HOLE", x.phases(3, 0, 23), -3);
    C.due("39: nothing given", x.phases(0, 1, -1), 0);
    C.due("39: nothing given, sum", x.phases(0, 1, -2), 0);
    C.due("35: PHASES stay", x.phase(6, 0), 0);
    C.due("39: ahead of another LIMIT", x.phases(3, 0, -2), 1);
    x.limit(0);
    C.due("39: LIMIT 0", x.phases(3, 0, -2), 0);
    x.limit(100);
    C.due("39: LIMIT 100: two are 2 away or nearer", x.phases(3, 0, -1), 0);
    C.due("39: sum", x.phases(3, 0, -2), 4);
    x.share(1, 0);
    C.due("39: SHARES told anew, sum", x.phases(3, 0, -2), 2);
    x.share(2, 0);
    C.due("39: no SHARES", x.phases(3, 0, -2), 0);
    x.share(3, 100);
    C.due("39: 3 away alone", x.phases(3, 0, -2), 2);
    C.due("39: of these the first", x.phases(3, 0, 4), 0);
    C.due("39: the later ones", x.phases(3, 0, 7), 1);
    x.wish(16 * 4 + 3, 0);
    C.due("39: WISHED otherwise", x.phases(3, 0, -2), 1);
    C.due("39: which is not given now", x.phases(3, 0, 4), -3);
  }

  private static void wrongInputs() {
    DropPens x = five();
    C.noHole("36: COLUMN 16", () -> x.pace(16, 0, 0));
    C.noHole("36: COLUMN -1", () -> x.pace(-1, 0, 0));
    C.noHole("36: HOLE 24", () -> x.pace(0, 0, 24));
    C.noHole("36: HOLE ahead of PASS", () -> x.pace(0, 2, 24));
    C.noPass("36: PASS 2", () -> x.pace(0, 2, 0));
    C.noPass("36: PASS -1", () -> x.pace(0, -1, 0));
    C.noHole("37: COLUMN 16", () -> x.slow(16, 0));
    C.noHole("37: COLUMN -1", () -> x.slow(-1, 0));
    C.noHole("37: COLUMN ahead of PASS", () -> x.slow(16, 2));
    C.noPass("37: PASS 2", () -> x.slow(0, 2));
    C.noHole("39: COLUMN 16", () -> x.phases(16, 2, 99));
    C.noHole("39: COLUMN -1", () -> x.phases(-1, 0, 0));
    C.noPass("39: PASS 2", () -> x.phases(0, 2, 99));
    C.noPass("39: PASS -1", () -> x.phases(0, -1, 0));
    C.noneSuch("39: what 24", () -> x.phases(0, 0, 24));
    C.noneSuch("39: what -3", () -> x.phases(0, 0, -3));
  }

  private static boolean[] thrown;
  private static int[] share;
  private static int limit;
  private static Map<String, int[]> known;

  /** The least {SLOW, sum} of all HOLES from one on, if these PHASES stand ahead of it. */
  private static int[] least(int hole, String ahead) {
    if (hole == 27) {
      return new int[] {0, 0};
    }
    String key = hole + ":" + ahead.substring(Math.max(0, ahead.length() - 6));
    int[] best = known.get(key);
    if (best != null) {
      return best;
    }
    boolean is = hole < 24 && thrown[hole];
    for (char c : (is ? "012" : "-").toCharArray()) {
      int[] with = with(hole, ahead, c);
      best = best == null || with[0] < best[0] || (with[0] == best[0] && with[1] < best[1]) ? with : best;
    }
    known.put(key, best);
    return best;
  }

  private static int[] with(int hole, String ahead, char c) {
    int[] rest = least(hole + 1, ahead + c);
    return new int[] {rest[0] + slow(ahead + c, hole - 3), rest[1] + (c == '-' ? 0 : c - '0')};
  }

  private static int slow(String phases, int hole) {
    if (hole < 0 || phases.charAt(hole) == '-') {
      return 0;
    }
    int pace = 100;
    for (int o = Math.max(0, hole - 3); o <= hole + 3; o++) {
      pace -= o != hole && phases.charAt(o) == phases.charAt(hole) ? share[Math.abs(o - hole)] : 0;
    }
    return Math.max(0, pace) < limit ? 1 : 0;
  }

  /** Up to all HOLES, worked out in another way; set so, just as many are SLOW. */
  private static void manyHoles() {
    Random random = new Random(39);
    for (int i = 0; i < 150; i++) {
      DropPens x = new DropPens();
      x.pass(0);
      x.set(0, 0);
      share = new int[4];
      for (int away = 1; away <= 3; away++) {
        share[away] = random.nextInt(5) == 0 ? 0 : random.nextInt(i % 2 == 0 ? 40 : 101);
        x.share(away, share[away]);
      }
      limit = i % 5 == 0 ? 100 : random.nextInt(101);
      x.limit(limit);
      thrown = new boolean[24];
      int often = 1 + random.nextInt(10);
      for (int row = 0; row < 24; row++) {
        thrown[row] = i % 10 == 0 || random.nextInt(often) > 0;
        x.wish(16 * row + 9, thrown[row] ? 1 : 0);
      }
      known = new HashMap<>();
      int[] best = least(0, "");
      C.due("39: run " + i + " SLOW", x.phases(9, 0, -1), best[0]);
      C.due("39: run " + i + " sum", x.phases(9, 0, -2), best[1]);
      String ahead = "";
      for (int hole = 0; hole < 24; hole++) {
        int[] due = least(hole, ahead);
        char first = thrown[hole] ? '0' : '-';
        while (!java.util.Arrays.equals(with(hole, ahead, first), due)) {
          first++;
        }
        C.due("39: run " + i + " HOLE " + hole, x.phases(9, 0, hole), first == '-' ? -3 : first - '0');
        if (first != '-') {
          x.phase(hole, first - '0');
        }
        ahead += first;
      }
      C.due("37: run " + i + " so many are SLOW", x.slow(9, 0), best[0]);
    }
  }
}
