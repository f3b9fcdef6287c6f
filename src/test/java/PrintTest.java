/** Promises 15 to 21: ink, prints, DOTS, what WAITED, SPIT. */
public final class PrintTest {
  private static final Check C = new Check("PrintTest");

  public static void main(String[] args) {
    fill();
    print();
    drying();
    waitingLong();
    spit();
    wrongInputs();
    C.end();
  }

  private static void inks(String when, DropPens x, int... want) {
    for (int what = 0; what < 5; what++) {
      C.due("21: " + when + ", ink " + what, x.ink(what), want[what]);
    }
  }

  private static void fill() {
    DropPens x = new DropPens();
    C.noneSuch("15: -1", () -> x.fill(-1));
    C.noneSuch("15: above", () -> x.fill(100001));
    C.due("15: nothing", x.fill(0), 0);
    for (int i = 1; i <= 9; i++) {
      C.due("15: filled", x.fill(100000), 100000 * i);
    }
    C.due("15: nearly full", x.fill(99999), 999999);
    C.noState("15: too much", () -> x.fill(2));
    C.noneSuch("15: none such, though full", () -> x.fill(100001));
    C.due("15: full", x.fill(1), 1000000);
    C.due("15: nothing more", x.fill(0), 1000000);
    C.noState("15: one too many", () -> x.fill(1));
    inks("filled", x, 1000000, 1000000, 0, 0, 0);
    x.spit();
    C.due("15: there is room again", x.fill(24), 1000000);
    inks("filled again", x, 1000024, 1000000, 0, 24, 0);
  }

  private static void print() {
    DropPens x = new DropPens();
    C.due("16: nothing to print, no ink", x.print(), 0);
    C.due("53: prints", x.count(2), 1);
    x.pass(0);
    x.wish(16 * 3 + 1, 2);
    x.wish(16 * 3 + 2, 1);
    x.fill(2);
    C.due("16: too little", x.print(), -1);
    C.due("53: no print", x.count(2), 1);
    C.due("19: none WAITED", x.waited(0), 0);
    inks("not printed", x, 2, 2, 0, 0, 0);
    x.fill(1);
    C.due("16: just enough", x.print(), 3);
    inks("printed", x, 3, 0, 3, 0, 0);
    // of COLUMN 1 the HOLES 3 and 4 throw (2 has none first), where they fall
    C.due("17: dots in the ROW", x.dots(16 * 3 + 1), 1);
    C.due("17: where it fell", x.dots(16 * 4 + 1), 1);
    C.due("17: not above", x.dots(16 * 2 + 1), 0);
    C.due("17: COLUMN 2", x.dots(16 * 3 + 2), 1);
    C.due("18: wrong CELLS", x.wrong(), 2);
    C.due("19: HOLE 3", x.waited(3), 13);
    C.due("19: HOLE 4", x.waited(4), 14);
    C.due("19: others", x.waited(0), 16);
    C.due("16: nothing left", x.print(), -1);
    C.due("17: DOTS stay", x.dots(16 * 3 + 1), 1);
    C.due("53: prints again", x.count(2), 2);
    x.wish(16 * 3 + 1, 1);
    x.wish(16 * 4 + 1, 1);
    C.due("18: as WISHED", x.wrong(), 0);
    x.clear();
    C.due("16: without PASSES", x.print(), 0);
    C.due("17: DOTS are of the latest print", x.dots(16 * 3 + 1), 0);
    C.due("19: nothing waits without PASSES", x.waited(0), 16);
    C.due("18: all are wrong", x.wrong(), 3);
  }

  private static void drying() {
    DropPens x = new DropPens();
    x.pass(0);
    x.set(2, 5);
    x.wish(5, 1);
    x.wish(16 + 6, 1);
    x.wish(16 + 12, 1);
    x.fill(10);
    C.due("16: WAITED 5 lies, WAITED 6 is LOST, but then 5 lies", x.print(), 2);
    C.due("17: HOLE 0", x.dots(5), 1);
    C.due("17: HOLE 1 LOST", x.dots(16 + 6), 0);
    C.due("17: HOLE 1 lies", x.dots(16 + 12), 1);
    inks("one LOST", x, 10, 7, 2, 1, 0);
    C.due("19: HOLE 0", x.waited(0), 10);
    C.due("19: HOLE 1", x.waited(1), 3);
    C.due("18: one is wrong", x.wrong(), 1);
    C.due("16: from print to print", x.print(), 1);
    C.due("19: again", x.waited(0), 10);
    inks("two LOST more", x, 10, 4, 3, 3, 0);
  }

  private static void waitingLong() {
    DropPens x = new DropPens();
    for (int p = 0; p < 4; p++) {
      x.pass(0);
    }
    x.shut(7, true);
    for (int i = 0; i < 15; i++) {
      x.print();
    }
    C.due("19: 960", x.waited(7), 960);
    x.print();
    C.due("19: 1,000 at most, SHUT too", x.waited(7), 1000);
    C.due("19: not SHUT", x.waited(8), 1000);
    x.set(2, 1000);
    x.fill(30);
    x.wish(16 * 8, 1);
    x.clear();
    x.pass(0);
    C.due("16: never longer than 1,000", x.print(), 1);
    x.set(2, 999);
    x.wish(16 * 8, 0);
    x.wish(16 * 9, 1);
    C.due("16: LOST", x.print(), 0);
    C.due("19: then 0, then 15 more", x.waited(9), 15);
  }

  private static void spit() {
    DropPens x = new DropPens();
    x.pass(0);
    x.print();
    x.shut(3, true);
    x.fill(22);
    C.due("20: too little", x.spit(), -1);
    C.due("19: nothing done", x.waited(0), 16);
    inks("no SPIT", x, 22, 22, 0, 0, 0);
    x.fill(1);
    C.due("20: spit", x.spit(), 23);
    C.due("19: none WAITED", x.waited(0), 0);
    C.due("19: SHUT still", x.waited(3), 16);
    inks("SPIT", x, 23, 0, 0, 23, 0);
    C.due("53: it is no print", x.count(2), 1);
    for (int hole = 0; hole < 24; hole++) {
      x.shut(hole, true);
    }
    C.due("20: all SHUT", x.spit(), 0);
  }

  private static void wrongInputs() {
    DropPens x = new DropPens();
    C.noHole("17: CELL 384", () -> x.dots(384));
    C.noHole("17: CELL -1", () -> x.dots(-1));
    C.noHole("19: HOLE 24", () -> x.waited(24));
    C.noHole("19: HOLE -1", () -> x.waited(-1));
    C.noneSuch("21: 5", () -> x.ink(5));
    C.noneSuch("21: -1", () -> x.ink(-1));
  }
}
