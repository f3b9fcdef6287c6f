import java.math.BigInteger;
import java.util.Random;

/** Promises 40 to 43: GOES, ODDS, the likely STATE, how soon ODDS are below. */
public final class OddsTest {
  private static final Check C = new Check("OddsTest");

  public static void main(String[] args) {
    goes();
    odds();
    likely();
    below();
    besidePlain();
    C.end();
  }

  private static void goes() {
    DropPens x = new DropPens();
    C.due("40: was", x.goes(0, 1, 60), 0);
    C.due("40: together 100", x.goes(0, 2, 40), 0);
    C.due("40: above", x.goes(0, 3, 1), -1);
    C.due("40: 0 is not above", x.goes(0, 3, 0), 0);
    C.due("40: above, by what it was", x.goes(0, 1, 61), -1);
    C.due("40: less", x.goes(0, 1, 59), 60);
    C.due("40: room for one", x.goes(0, 3, 1), 0);
    C.due("40: from another STATE", x.goes(1, 0, 100), 0);
    C.noneSuch("40: they are one", () -> x.goes(2, 2, 0));
    C.noneSuch("40: from 4", () -> x.goes(4, 0, 0));
    C.noneSuch("40: from -1", () -> x.goes(-1, 0, 0));
    C.noneSuch("40: to 4", () -> x.goes(0, 4, 0));
    C.noneSuch("40: to -1", () -> x.goes(0, -1, 0));
    C.noneSuch("40: 101", () -> x.goes(0, 1, 101));
    C.noneSuch("40: -1", () -> x.goes(0, 1, -1));
    C.due("40: stays", x.goes(0, 1, 59), 59);
  }

  private static void number(DropPens x, int from, int to, int seconds, String digits) {
    for (int k = 0; k <= 2 * seconds; k++) {
      int at = digits.length() - 1 - k;
      C.due("41: " + from + " to " + to + " in " + seconds + ", digit " + k, x.odds(from, to, seconds, k),
          at < 0 ? 0 : digits.charAt(at) - '0');
    }
    C.due("41: no digit above", x.odds(from, to, seconds, 2 * seconds + 1), -1);
    C.due("41: no digit below", x.odds(from, to, seconds, -1), -1);
    C.due("41: no digit afar", x.odds(from, to, seconds, Integer.MAX_VALUE), -1);
  }

  private static void odds() {
    DropPens x = new DropPens();
    number(x, 2, 2, 0, "1");
    number(x, 2, 1, 0, "0");
    number(x, 1, 1, 30, "1" + "0".repeat(60));
    number(x, 1, 0, 30, "0");
    x.goes(0, 1, 10);
    x.goes(1, 0, 25);
    x.goes(1, 3, 5);
    number(x, 0, 0, 1, "90");
    number(x, 0, 1, 1, "10");
    number(x, 0, 0, 2, "8350");
    number(x, 0, 1, 2, "1600");
    number(x, 0, 3, 2, "50");
    number(x, 3, 3, 2, "10000");
    x.goes(2, 3, 1);
    number(x, 2, 2, 30, BigInteger.valueOf(99).pow(30).toString());
    C.noneSuch("41: from 4", () -> x.odds(4, 0, 0, 0));
    C.noneSuch("41: to -1", () -> x.odds(0, -1, 0, 0));
    C.noneSuch("41: SECONDS 31", () -> x.odds(0, 0, 31, 0));
    C.noneSuch("41: SECONDS -1", () -> x.odds(0, 0, -1, 0));
  }

  private static void likely() {
    DropPens x = new DropPens();
    C.due("42: it stays", x.likely(2, 30), 2);
    x.goes(2, 1, 50);
    C.due("42: of these the least", x.likely(2, 1), 1);
    C.due("42: at once", x.likely(2, 0), 2);
    x.goes(2, 1, 49);
    C.due("42: one less", x.likely(2, 1), 2);
    C.due("42: a SECOND more", x.likely(2, 2), 1);
    x.goes(3, 0, 25);
    x.goes(3, 1, 25);
    x.goes(3, 2, 25);
    C.due("42: all are one", x.likely(3, 1), 0);
    x.goes(0, 3, 1);
    C.due("42: by the lowest digits", x.likely(0, 30), 0);
    C.noneSuch("42: STATE 4", () -> x.likely(4, 0));
    C.noneSuch("42: STATE -1", () -> x.likely(-1, 0));
    C.noneSuch("42: SECONDS 31", () -> x.likely(0, 31));
    C.noneSuch("42: SECONDS -1", () -> x.likely(0, -1));
  }

  private static void below() {
    DropPens x = new DropPens();
    C.due("43: never below 100", x.below(0, 0, 100), -1);
    C.due("43: at once below", x.below(0, 1, 1), 0);
    C.due("43: never below 0", x.below(0, 1, 0), -1);
    x.goes(0, 1, 50);
    C.due("43: 100 to 50", x.below(0, 0, 100), 1);
    C.due("43: 50 is not below 50", x.below(0, 0, 50), 2);
    C.due("43: 25 is not below 25", x.below(0, 0, 25), 3);
    C.due("43: below 26", x.below(0, 0, 26), 2);
    C.due("43: below 1", x.below(0, 0, 1), 7);
    x.goes(0, 1, 1);
    C.due("43: in 30", x.below(0, 0, 74), 30);
    C.due("43: not in 30", x.below(0, 0, 73), -1);
    C.noneSuch("43: STATE 4", () -> x.below(4, 0, 1));
    C.noneSuch("43: STATE -1", () -> x.below(0, -1, 1));
    C.noneSuch("43: 101", () -> x.below(0, 0, 101));
    C.noneSuch("43: -1", () -> x.below(0, 0, -1));
  }

  private static void besidePlain() {
    Random random = new Random(41);
    for (int i = 0; i < 60; i++) {
      DropPens x = new DropPens();
      Plain y = new Plain();
      for (int j = 0; j < 14; j++) {
        int from = random.nextInt(4);
        int to = (from + 1 + random.nextInt(3)) % 4;
        int v = random.nextInt(i % 2 == 0 ? 101 : 40);
        C.due("40: goes", x.goes(from, to, v), y.goes(from, to, v));
      }
      for (int from = i % 2; from < 4; from += 2) {
        int seconds = random.nextInt(i % 3 == 0 ? 31 : 20);
        C.due("42: likely", x.likely(from, seconds), y.likely(from, seconds));
        for (int to = 0; to < 4; to++) {
          int hundredths = random.nextInt(101);
          C.due("43: below", x.below(from, to, hundredths), y.below(from, to, hundredths));
          for (int k = 0; k <= 2 * seconds; k++) {
            C.due("41: odds", x.odds(from, to, seconds, k), y.odds(from, to, seconds, k));
          }
        }
      }
    }
  }
}
