import java.util.Arrays;
import java.util.Random;

/** Promises 7 to 11: the TAPE, PICTURES, FAULTS, WISHED. */
public final class PictureTest {
  private static final Check C = new Check("PictureTest");

  public static void main(String[] args) {
    tape();
    pictures();
    faults();
    wishes();
    randomTexts();
    C.end();
  }

  private static void tape() {
    DropPens x = new DropPens();
    for (int i = 1; i <= 15; i++) {
      C.due("7: feed", x.feed(i, 0, 0, 0, 0), 20 * i);
    }
    C.due("7: 300 at most", x.feed(1, 2, 3, 4, 5), -1);
    C.due("7: nothing came", x.count(4), 300);
    C.noneSuch("8: n above", () -> x.picture(301));
    C.noneSuch("8: n below", () -> x.picture(-1));
    C.due("8: it stays", x.count(4), 300);
    C.due("8: byte 0 can't stand there", x.picture(300), -9);
    C.due("8: empty then", x.count(4), 0);
    C.due("9: fault", x.fault(), 0);
    C.noneSuch("8: nothing on it", () -> x.picture(1));
    C.due("9: stays when it throws", x.fault(), 0);
    x.feed(0x61626361, 0x62636162, 0x63616263, 0x61626361, 0x2f616263);
    C.due("7: highest byte first, 8: n bytes", x.picture(18), 31 + 1);
    C.due("9: without", x.fault(), -1);
    C.due("8: the rest of the TAPE is gone", x.count(4), 0);
    String row = "abcabcabcabcabca";
    for (int c = 0; c < 16; c++) {
      C.due("10: wished " + c, x.wished(c), row.charAt(c) - 'a' + 1);
    }
    C.due("10: second ROW", x.wished(16), 1);
    x.feed(0xff000000, 0, 0, 0, 0);
    C.due("8: byte 255", x.picture(1), -9);
    firstBytes("(ab)!", 4, 3, -1);
    firstBytes("(ab)", 3, -9, 3);
    firstBytes("12a", 1, -9, 1);
    firstBytes("b12a", 2, -9, 2);
    firstBytes("a/=", 2, 1, -1);
    firstBytes("a/", 1, 1, -1);
    firstBytes("17a", 1, -9, 1);
    firstBytes("a" + "()".repeat(149) + "b", 300, 3, -1);
    firstBytes("a" + "()".repeat(149) + "2", 300, -9, 300);
    firstBytes("a" + "()".repeat(149) + "(", 300, -9, 300);
    firstBytes("0".repeat(299) + "2", 300, -9, 300);
    firstBytes("0".repeat(298) + "2a", 300, 2, -1);
    firstBytes("0".repeat(300), 300, -8, 0);
  }

  /** What stands behind the first n bytes does not count. */
  private static void firstBytes(String text, int n, int answer, int place) {
    DropPens x = new DropPens();
    Check.feed(x, text);
    C.due("8: first " + n + " of " + text, x.picture(n), answer);
    C.due("9: first " + n + " of " + text, x.fault(), place);
  }

  private static void drawn(String text, String... rows) {
    DropPens x = new DropPens();
    for (int cell = 0; cell < 384; cell += 7) {
      x.wish(cell, 2);
    }
    int sum = 0;
    for (String row : rows) {
      for (char c : row.toCharArray()) {
        sum += ".abc".indexOf(c);
      }
    }
    C.due("8: picture " + text, Check.draw(x, text), sum);
    C.due("9: fault " + text, x.fault(), -1);
    C.due("53: drops WISHED " + text, x.count(1), sum);
    for (int cell = 0; cell < 384; cell++) {
      String row = cell / 16 < rows.length ? rows[cell / 16] : "";
      int want = cell % 16 < row.length() ? ".abc".indexOf(row.charAt(cell % 16)) : 0;
      C.due("10: wished " + cell + " of " + text, x.wished(cell), want);
    }
  }

  private static void pictures() {
    drawn("");
    drawn("a", "a");
    drawn(".abc", ".abc");
    drawn("/a", "", "a");
    drawn("3a2.b", "aaa..b");
    drawn("16c", "cccccccccccccccc");
    drawn("0000000000000000000000002a", "aa");
    drawn("01a015b", "a" + "b".repeat(15));
    drawn("a/b/c", "a", "b", "c");
  }

  private static void faulty(String text, int kind, int place) {
    DropPens x = new DropPens();
    x.wish(17, 3);
    C.due("8: picture " + text, Check.draw(x, text), kind - 10);
    C.due("9: place " + text, x.fault(), place);
    C.due("8: the PICTURE stays " + text, x.wished(17), 3);
    C.due("8: nothing else " + text, x.count(1), 3);
    C.due("8: the TAPE is empty " + text, x.count(4), 0);
  }

  private static void faults() {
    drawnGroups();
    // 1: what can't stand there
    faulty("d", 1, 0);
    faulty("A", 1, 0);
    faulty(" a", 1, 0);
    faulty("!", 1, 0);
    faulty(")", 1, 0);
    faulty("a)", 1, 1);
    faulty("a!", 1, 1);
    faulty("2a!", 1, 2);
    faulty("(a)!!", 1, 4);
    faulty("(a", 1, 2);
    faulty("(", 1, 1);
    faulty("((a)", 1, 4);
    faulty("3", 1, 1);
    faulty("(3)", 1, 2);
    faulty("3/a", 1, 1);
    faulty("3!", 1, 1);
    faulty("(a/b)", 1, 2);
    faulty("=", 1, 0);
    faulty("=/a", 1, 0);
    faulty("a/=b", 1, 3);
    faulty("a/==", 1, 3);
    faulty("a/b=", 1, 3);
    faulty("a/2=", 1, 3);
    faulty("a/(=)", 1, 3);
    faulty("a/=!", 1, 3);
    // 2: an N that is none such
    faulty("0a", 2, 0);
    faulty("17a", 2, 0);
    faulty("a/.00", 2, 3);
    faulty("99999999999999999999a", 2, 0);
    faulty("4294967297a", 2, 0);
    faulty("17", 2, 0);
    faulty("17d", 2, 0);
    faulty("(2(20a))", 2, 3);
    faulty("((((17(a)))))", 2, 4);
    // 3: a 5th bracket, a 25th ROW
    faulty("(((((", 3, 4);
    faulty("((((2(a)))))", 3, 5);
    faulty("()((()(((", 3, 8);
    faulty("/".repeat(24), 3, 23);
    faulty("a" + "/=".repeat(23) + "/", 3, 47);
    faulty("/".repeat(23) + "(/", 1, 24);
    faulty("/".repeat(23) + "2/", 1, 24);
    faulty("/".repeat(23) + "16aa/", 4, 26);
    // 4: more than 16 COLUMNS, at the outermost ITEM; 1 to 3 in it are ahead
    faulty("16aa", 4, 3);
    faulty("16.a", 4, 3);
    faulty("9a8b", 4, 2);
    faulty("a".repeat(17), 4, 16);
    faulty("a9(ab)d", 4, 1);
    faulty("a9(abd)", 1, 5);
    faulty("(16aa", 1, 5);
    faulty("(16aa17a)", 2, 5);
    faulty("(16aa((((", 3, 8);
    faulty("(9a)!", 4, 0);
    faulty("a(8a)!", 4, 1);
    faulty("16(16(16(16(16(", 3, 14);
    faulty("16(16(16(16(16c)!)!)!)!", 4, 0);
    faulty("b/16a()a", 4, 7);
    faulty("16a!", 1, 3);
    faulty("16aa!", 4, 3);
  }

  private static void drawnGroups() {
    drawn("(a)", "a");
    drawn("()", "");
    drawn("16()16()!", "");
    drawn("(ab)!", "abba");
    drawn("2(ab)!c", "abbaabbac");
    drawn("(a2(b.)!)", "ab..bb..b");
    drawn("(a(bc)!)!", "abccbbccba");
    drawn("((((a))))", "a");
    drawn("4(2(2(a)))", "a".repeat(16));
    drawn("2(2(2(2(c))))", "c".repeat(16));
    drawn("(.a)(b)/=/=", ".ab", ".ab", ".ab");
    drawn("a//=/b/=", "a", "", "", "b", "b");
    drawn("16a()", "a".repeat(16));
    String[] rows = new String[24];
    Arrays.fill(rows, "cb");
    drawn("cb" + "/=".repeat(23), rows);
  }

  private static void wishes() {
    DropPens x = new DropPens();
    C.due("11: wish", x.wish(383, 3), 0);
    C.due("11: was", x.wish(383, 1), 3);
    C.due("10: is", x.wished(383), 1);
    C.noneSuch("11: 4", () -> x.wish(383, 4));
    C.noneSuch("11: -1", () -> x.wish(383, -1));
    C.noHole("11: CELL 384", () -> x.wish(384, 0));
    C.noHole("11: CELL -1", () -> x.wish(-1, 0));
    C.noHole("11: CELL ahead of the number", () -> x.wish(384, 9));
    C.noHole("10: CELL 384", () -> x.wished(384));
    C.noHole("10: CELL -1", () -> x.wished(-1));
    C.due("10: stays", x.wished(383), 1);
    C.due("53: drops", x.count(1), 1);
    C.due("8: a PICTURE takes them away", x.picture(0), 0);
    C.due("10: all that is not told", x.wished(383), 0);
  }

  /** Texts of the signs that the document has, a few strange ones among them, beside the plain reader. */
  private static void randomTexts() {
    Random random = new Random(7);
    String signs = "aaabbc..((()))!!22315/=0d";
    for (int i = 0; i < 40000; i++) {
      int length = random.nextInt(random.nextInt(10) == 0 ? 60 : 12);
      StringBuilder s = new StringBuilder();
      for (int j = 0; j < length; j++) {
        s.append(signs.charAt(random.nextInt(signs.length())));
      }
      String text = s.toString();
      PlainPicture p = new PlainPicture(text);
      DropPens x = new DropPens();
      int got = Check.draw(x, text);
      C.due("8: picture " + text, got, p.fault != 0 ? p.fault - 10 : Arrays.stream(p.cells).sum());
      C.due("9: place " + text, x.fault(), p.place);
      for (int cell = 0; p.fault == 0 && cell < 48; cell++) {
        C.due("10: wished " + text, x.wished(cell), p.cells[cell]);
      }
    }
  }
}
