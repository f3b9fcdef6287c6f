/** Promises 1 to 6 and 53: a new object, LEAN, SHUT, PASSES, settings, counts. */
public final class HeadTest {
  private static final Check C = new Check("HeadTest");

  public static void main(String[] args) {
    newObject();
    lean();
    shut();
    passes();
    settings();
    counts();
    C.end();
  }

  private static void newObject() {
    DropPens x = new DropPens();
    for (int what = 0; what <= 6; what++) {
      C.due("1: count " + what, x.count(what), 0);
    }
    for (int what = 0; what <= 4; what++) {
      C.due("1: ink " + what, x.ink(what), 0);
    }
    for (int hole = 0; hole < 24; hole++) {
      C.due("1: lean", x.lean(hole, 0), 0);
      C.due("1: shut", x.shut(hole, false), false);
      C.due("1: waited", x.waited(hole), 0);
      C.due("1: phase", x.phase(hole, 0), 0);
    }
    for (int cell = 0; cell < 384; cell += 3) {
      C.due("1: wished", x.wished(cell), 0);
      C.due("1: dots", x.dots(cell), 0);
    }
    int[] first = {1, 9, 20, 2, 9, 3};
    for (int what = 0; what < 6; what++) {
      C.due("1: set " + what, x.set(what, first[what]), first[what]);
    }
    int[] shares = {30, 10, 0};
    for (int away = 1; away <= 3; away++) {
      C.due("1: share " + away, x.share(away, shares[away - 1]), shares[away - 1]);
    }
    C.due("1: limit", x.limit(60), 60);
    for (int row = 0; row < 24; row++) {
      C.due("1: toll", x.toll(row, 0), 0);
    }
    for (int day = 0; day < 10; day++) {
      C.due("1: bad", x.bad(day, 0), 0);
    }
    C.due("1: fault", x.fault(), -1);
    C.due("1: NONE", DropPens.NONE, -1);
    C.noPass("1: no PASS", () -> x.given(0, 0, 0));
    C.noState("1: no search", () -> x.fewest());
  }

  private static void lean() {
    DropPens x = new DropPens();
    C.due("2: lean", x.lean(5, -2), 0);
    C.due("2: lean again", x.lean(5, 2), -2);
    C.due("2: another HOLE", x.lean(6, 1), 0);
    x.shut(5, true);
    C.due("2: SHUT", x.lean(5, 1), -3);
    C.noneSuch("2: SHUT, a LEAN that is none such", () -> x.lean(5, 3));
    x.shut(5, false);
    C.due("2: stays while SHUT", x.lean(5, 2), 2);
    C.noneSuch("2: 3", () -> x.lean(5, 3));
    C.noneSuch("2: -3", () -> x.lean(5, -3));
    C.due("2: stays", x.lean(5, 2), 2);
    C.noHole("2: HOLE -1", () -> x.lean(-1, 0));
    C.noHole("2: HOLE 24", () -> x.lean(24, 0));
    C.noHole("2: HOLE ahead of LEAN", () -> x.lean(24, 9));
    x.pass(0);
    x.set(0, 0);
    x.shut(6, true);
    x.shut(7, true);
    x.wish(16 * 7 + 3, 1);
    x.wish(16 * 5 + 3, 1);
    C.due("2: it falls where it leans", x.given(3, 0, 5), 7);
    C.due("2: nothing falls where it stood", x.way(3, 2), 1);
  }

  private static void shut() {
    DropPens x = new DropPens();
    C.due("3: was not", x.shut(23, true), false);
    C.due("3: was", x.shut(23, true), true);
    C.due("3: count", x.count(5), 1);
    C.due("3: was still", x.shut(23, false), true);
    C.due("3: is not", x.shut(23, false), false);
    C.noHole("3: HOLE -1", () -> x.shut(-1, true) ? 1 : 0);
    C.noHole("3: HOLE 24", () -> x.shut(24, true) ? 1 : 0);
    C.due("3: count again", x.count(5), 0);
    x.pass(0);
    x.shut(2, true);
    C.due("3: it can't be thrown", x.way(0, 3), 23);
  }

  private static void passes() {
    DropPens x = new DropPens();
    C.noneSuch("4: 25", () -> x.pass(25));
    C.noneSuch("4: -25", () -> x.pass(-25));
    C.due("4: first", x.pass(24), 0);
    C.due("4: second", x.pass(-24), 1);
    C.due("4: nothing falls on the PAPER", x.way(0, 3), 0);
    C.due("4: third", x.pass(23), 2);
    C.due("4: one falls", x.way(0, 3), 1);
    C.due("4: fourth", x.pass(0), 3);
    C.due("4: there are 4", x.pass(0), -1);
    C.noneSuch("4: wrong OFFSET beyond 4", () -> x.pass(99));
    C.due("4: DROPS", x.way(0, 3), 25);
    C.due("5: clear", x.clear(), 4);
    C.due("5: none", x.clear(), 0);
    C.due("5: no DROPS", x.way(0, 3), 0);
    C.due("4: anew", x.pass(-23), 0);
    C.due("4: by LEAN", x.lean(22, 1), 0);
    C.due("4: one more falls", x.way(0, 3), 2);
  }

  private static void settings() {
    DropPens x = new DropPens();
    int[] least = {0, 1, 1, 0, 0, 0};
    int[] most = {2, 50, 1000, 100, 100, 100};
    int[] was = {1, 9, 20, 2, 9, 3};
    for (int i = 0; i < 6; i++) {
      int what = i;
      C.noneSuch("6: below", () -> x.set(what, least[what] - 1));
      C.noneSuch("6: above", () -> x.set(what, most[what] + 1));
      C.due("6: was", x.set(what, least[what]), was[what]);
      C.due("6: least", x.set(what, most[what]), least[what]);
      C.due("6: most", x.set(what, most[what]), most[what]);
    }
    C.noneSuch("6: what -1", () -> x.set(-1, 1));
    C.noneSuch("6: what 6", () -> x.set(6, 1));
  }

  private static void counts() {
    DropPens x = new DropPens();
    x.pass(0);
    x.pass(1);
    x.wish(0, 3);
    x.wish(100, 2);
    x.fill(100);
    x.print();
    x.search(3, 1);
    x.test(0, 1, true);
    x.feed(0, 0, 0, 0, 0);
    x.shut(0, true);
    x.shut(1, true);
    x.shut(2, true);
    x.mark();
    int[] want = {2, 5, 1, 1, 20, 3, 1};
    for (int what = 0; what < 7; what++) {
      C.due("53: count " + what, x.count(what), want[what]);
    }
    C.due("53: 7", x.count(7), -1);
    C.due("53: -1", x.count(-1), -1);
    C.due("53: far", x.count(Integer.MIN_VALUE), -1);
  }
}
