/** Promises 48 to 52: what an eye sees, the DIGEST, MARKS. */
public final class MarkTest {
  private static final Check C = new Check("MarkTest");

  public static void main(String[] args) {
    seen();
    digest();
    marks();
    backToAll();
    C.end();
  }

  private static void seen() {
    DropPens x = new DropPens();
    C.due("49: nothing: the first", x.stripe(), 0);
    x.wish(16 * 10, 3);
    x.wish(16 * 10 + 15, 2);
    int[] want = {-5, -10, -20, -10, -5};
    for (int row = 0; row < 24; row++) {
      C.due("48: ROW " + row, x.seen(row), row >= 8 && row <= 12 ? want[row - 8] : 0);
    }
    C.due("49: the amount counts", x.stripe(), 10);
    x.wish(16 * 13, 3);
    x.wish(16 * 13 + 1, 2);
    C.due("48: both", x.seen(11), -15);
    C.due("48: and the next", x.seen(12), -15);
    C.due("49: of these the first", x.stripe(), 10);
    x.wish(0, 1);
    x.wish(16 * 23, 1);
    C.due("48: at the edge", x.seen(0), -4);
    C.due("48: beside the edge", x.seen(1), -2);
    C.due("48: at the other edge", x.seen(23), -4);
    C.due("48: 2 from it", x.seen(21), -1);
    C.noHole("48: ROW 24", () -> x.seen(24));
    C.noHole("48: ROW -1", () -> x.seen(-1));
    DropPens y = new DropPens();
    y.pass(0);
    y.fill(10);
    y.wish(16 * 7, 2);
    y.print();
    C.due("48: as much in ROW 8 as too little in 7", y.seen(7), -4 + 2);
    C.due("48: ROW 8", y.seen(8), 4 - 2);
    C.due("48: ROW 9", y.seen(9), 2 - 1);
    C.due("49: dark or light", y.stripe(), 7);
    y.picture(0);
    C.due("48: DOTS alone", y.seen(7), 4 + 2);
    C.due("49: stripe of DOTS", y.stripe(), 7);
  }

  private static int hash(int... numbers) {
    int h = 17;
    for (int n : numbers) {
      h = 31 * h + n;
    }
    return h;
  }

  private static void digest() {
    // 24 HOLES of 4, no PASS, 384 CELLS of 2, 5 INKS, 24 TOLLS, 10 DAYS
    int[] all = new int[96 + 768 + 5 + 24 + 10];
    DropPens x = new DropPens();
    C.due("50: new", x.digest(), hash(all));
    x.lean(2, -1);
    all[8] = -1;
    x.shut(3, true);
    all[13] = 1;
    x.phase(4, 2);
    all[19] = 2;
    C.due("50: HOLES", x.digest(), hash(all));
    x.wish(1, 3);
    all[96 + 2] = 3;
    C.due("50: WISHED", x.digest(), hash(all));
    x.fill(77);
    all[864] = 77;
    all[865] = 77;
    x.toll(23, 9);
    all[869 + 23] = 9;
    x.bad(0, 1);
    all[893] = 1;
    x.bad(9, 8);
    all[902] = 8;
    C.due("50: INK, TOLLS, NEW", x.digest(), hash(all));
    x.spit();
    all[865] = 77 - 23;
    all[867] = 23;
    C.due("50: spilt", x.digest(), hash(all));
    x.wish(1, 0);
    all[98] = 0;
    x.pass(-7);
    int[] more = new int[all.length + 1];
    System.arraycopy(all, 0, more, 0, 96);
    more[96] = -7;
    System.arraycopy(all, 96, more, 97, all.length - 96);
    C.due("50: the PASS", x.digest(), hash(more));
    x.wish(16 * 3, 1);
    x.set(0, 0);
    x.clear();
    x.pass(0);
    more[96] = 0;
    x.shut(3, false);
    more[13] = 0;
    x.print();
    for (int hole = 0; hole < 24; hole++) {
      more[4 * hole + 2] = hole == 3 ? 15 : 16;
    }
    more[97 + 2 * 48] = 1;
    more[97 + 2 * 48 + 1] = 1;
    more[866]--;
    more[867]++;
    C.due("50: WAITED and DOTS", x.digest(), hash(more));
    x.set(1, 33);
    x.tones(2, -1);
    x.share(1, 1);
    x.limit(1);
    x.goes(0, 1, 7);
    x.search(4, 1);
    x.feed(1, 2, 3, 4, 5);
    x.mark();
    C.due("50: nothing else is in it", x.digest(), hash(more));
  }

  private static void marks() {
    DropPens x = new DropPens();
    C.due("52: none", x.back(), -1);
    int[] was = new int[4];
    for (int i = 0; i < 4; i++) {
      was[i] = x.digest();
      C.due("51: mark", x.mark(), i + 1);
      x.pass(i);
      x.wish(i, 1);
    }
    C.due("51: there are 4", x.mark(), -1);
    C.due("53: MARKS", x.count(6), 4);
    x.clear();
    for (int i = 3; i >= 0; i--) {
      C.due("52: back", x.back(), i);
      C.due("50: as it was", x.digest(), was[i]);
      C.due("53: PASSES as they were", x.count(0), i);
    }
    C.due("52: none is left", x.back(), -1);
    C.due("51: anew", x.mark(), 1);
  }

  private static void backToAll() {
    DropPens x = new DropPens();
    x.pass(1);
    x.pass(2);
    x.wish(16 * 4, 2);
    x.fill(50);
    x.print();
    x.toll(4, 6);
    x.bad(2, 5);
    x.phase(3, 1);
    x.lean(6, 1);
    int cost = x.cost(0);
    int given = x.given(0, 0, 3);
    int bound = x.bound(0);
    int plan = x.plan(5, -1);
    int slow = x.phases(0, 1, -2);
    int digest = x.digest();
    x.mark();
    x.lean(6, -2);
    x.shut(3, true);
    x.shut(2, true);
    x.clear();
    x.pass(-4);
    x.phase(3, 2);
    x.wish(16 * 4, 0);
    x.wish(16 * 9 + 5, 3);
    x.fill(9);
    x.print();
    x.spit();
    x.climb(5);
    x.bad(2, 0);
    x.set(2, 99);
    x.limit(42);
    x.search(5, 2);
    x.test(0, 2, true);
    x.goes(1, 2, 30);
    x.cost(0);
    C.due("52: back", x.back(), 0);
    C.due("50: as it was", x.digest(), digest);
    C.due("12: cost as it was", x.cost(0), cost);
    C.due("13: given as it was", x.given(0, 0, 3), given);
    C.due("45: bound as it was", x.bound(0), bound);
    C.due("31: plan as it was", x.plan(5, -1), plan);
    C.due("39: phases as they were", x.phases(0, 1, -2), slow);
    C.due("2: lean", x.lean(6, 0), 1);
    C.due("3: shut", x.shut(3, false), false);
    C.due("35: phase", x.phase(3, 0), 1);
    C.due("10: wished", x.wished(16 * 4), 2);
    C.due("10: not wished", x.wished(16 * 9 + 5), 0);
    C.due("21: filled", x.ink(0), 50);
    C.due("44: toll", x.toll(4, 0), 6);
    C.due("30: NEW", x.bad(2, 0), 5);
    // what the DIGEST has not goes on
    C.due("53: prints go on", x.count(2), 2);
    C.due("6: DRIES stays", x.set(2, 20), 99);
    C.due("34: LIMIT stays", x.limit(60), 42);
    C.due("53: TESTS stay", x.count(3), 1);
    C.due("40: GOES stays", x.goes(1, 2, 0), 30);
  }
}
