/** The edges of promises 7 to 11: the TAPE, PICTURES with their FAULTS, WISHED. */
public final class PictureEdgesTest {
  public static void main(String[] args) throws IllegalAccessException {
    Edges.run(PictureEdgesTest.class);
  }

  /** The text tells these ROWS, and nothing more is WISHED, whatever was. */
  private static void drawn(Check c, String text, String... rows) {
    DropPens x = new DropPens();
    x.wish(0, 3);
    x.wish(15, 3);
    x.wish(16 * 3 + 2, 1);
    x.wish(383, 2);
    int sum = 0;
    for (String row : rows) {
      for (char sign : row.toCharArray()) {
        sum += ".abc".indexOf(sign);
      }
    }
    c.due("picture " + text, Check.draw(x, text), sum);
    c.due("no FAULT in " + text, x.fault(), -1);
    c.due("the TAPE behind " + text, x.count(4), 0);
    for (int cell = 0; cell < 384; cell++) {
      String row = cell / 16 < rows.length ? rows[cell / 16] : "";
      int want = cell % 16 < row.length() ? ".abc".indexOf(row.charAt(cell % 16)) : 0;
      c.due("WISHED in " + cell + " by " + text, x.wished(cell), want);
    }
  }

  /** The text has this FAULT at this place; the PICTURE stays, the TAPE is empty then. */
  private static void faulty(Check c, String text, int kind, int place) {
    DropPens x = new DropPens();
    Check.draw(x, "abc/3b");
    int picture = x.digest();
    c.due("picture " + text, Check.draw(x, text), kind - 10);
    c.due("place in " + text, x.fault(), place);
    c.due("the PICTURE behind " + text, x.digest(), picture);
    c.due("the TAPE behind " + text, x.count(4), 0);
  }

  // ---- 7: feed ----

  /** "Twenty bytes come on the TAPE: how many there are; NONE, doing nothing, if there would be more than 300." */
  static void p07_300BytesAndNoMore(Check c) {
    DropPens x = new DropPens();
    for (int many = 20; many <= 300; many += 20) {
      c.due("feed", x.feed(0, 0, 0, 0, 0), many);
    }
    c.due("the 16th", x.feed(0, 0, 0, 0, 0), DropPens.NONE);
    c.due("300 are there", x.count(4), 300);
    c.due("the 17th", x.feed(0, 0, 0, 0, 0), DropPens.NONE);
  }

  /** "NONE, doing nothing". */
  static void p07_aRefusedFeedDoesNothing(Check c) {
    Edges.idle(c, "the 16th", x -> {
      for (int i = 0; i < 14; i++) {
        x.feed(0x28292829, 0x28292829, 0x28292829, 0x28292829, 0x28292829);
      }
      return 0;
    }, x -> x.feed(-1, -1, -1, -1, -1), DropPens.NONE);
  }

  /** The TAPE is "empty then" behind a picture(), so there is room again. */
  static void p07_roomAgainBehindAPicture(Check c) {
    DropPens x = new DropPens();
    for (int i = 0; i < 15; i++) {
      x.feed(0, 0, 0, 0, 0);
    }
    x.picture(0);
    c.due("feed", x.feed(0x61000000, 0, 0, 0, 0), 20);
    c.due("its first byte is the first", x.picture(1), 1);
  }

  /** "of each number the highest first". */
  static void p07_theHighestByteFirst(Check c) {
    DropPens x = new DropPens();
    x.feed(0x61626361, 0x2e2e2e2e, 0x62626262, 0x63636363, 0x2f61622e);
    c.due("picture", x.picture(20), 1 + 2 + 3 + 1 + 8 + 12 + 3);
    int[] row = {1, 2, 3, 1, 0, 0, 0, 0, 2, 2, 2, 2, 3, 3, 3, 3, 1, 2, 0};
    for (int cell = 0; cell < row.length; cell++) {
      c.due("CELL " + cell, x.wished(cell), row[cell]);
    }
  }

  /** Bytes above 127 are bytes like others: they can't stand anywhere, and leave those beside them alone. */
  static void p07_bytesAbove127(Check c) {
    for (int place = 0; place < 4; place++) {
      DropPens x = new DropPens();
      x.feed(0x61616161 & ~(255 << (24 - 8 * place)) | 0xe1 << (24 - 8 * place), 0, 0, 0, 0);
      c.due("picture", x.picture(4), -9);
      c.due("place", x.fault(), place);
    }
  }

  // ---- 8: picture ----

  /** "IllegalArgumentException: n is not 0 to the TAPE's bytes (it stays)." */
  static void p08_nIs0ToTheBytesOfTheTape(Check c) {
    Edges.within(c, 0, 20, Edges.NONE_SUCH, DropPens::picture);
    DropPens x = new DropPens();
    c.noneSuch("1 of none", () -> x.picture(1));
    c.noneSuch("-1 of none", () -> x.picture(-1));
    c.due("0 of none", x.picture(0), 0);
    for (int i = 0; i < 15; i++) {
      x.feed(0x28292829, 0x28292829, 0x28292829, 0x28292829, 0x28292829);
    }
    c.noneSuch("301 of 300", () -> x.picture(301));
    c.due("it stays", x.count(4), 300);
    c.due("300 of 300", x.picture(300), 0);
  }

  /** "The first n bytes of the TAPE (empty then)". */
  static void p08_theFirstNBytes(Check c) {
    int[] sums = {0, 1, 3, 6, 6, 7};
    for (int n = 0; n <= 5; n++) {
      DropPens x = new DropPens();
      Check.feed(x, "abc/ad");
      c.due("the first " + n, x.picture(n), sums[n]);
      c.due("the rest is gone", x.count(4), 0);
    }
    DropPens x = new DropPens();
    Check.feed(x, "abc/ad");
    c.due("with what can't stand there", x.picture(6), -9);
    c.due("gone then, too", x.count(4), 0);
  }

  /** "all that is not told is 0": so is all behind an empty text. */
  static void p08_anEmptyTextTellsNothing(Check c) {
    drawn(c, "");
    DropPens x = Edges.busy();
    c.due("0 of 20 bytes", x.picture(0), 0);
    c.due("nothing is WISHED", x.count(1), 0);
    c.due("no FAULT any more", x.fault(), -1);
    c.due("the TAPE is empty", x.count(4), 0);
  }

  /** "PICTURES are texts of up to 300 bytes". */
  static void p08_300Bytes(Check c) {
    drawn(c, "()".repeat(149) + "ab", "ab");
    faulty(c, "()".repeat(149) + "ad", 1, 299);
    faulty(c, "()".repeat(149) + "a2", 1, 300);
  }

  /** "how many drops are WISHED": none, and all that can be. */
  static void p08_noDropAnd1152(Check c) {
    DropPens x = new DropPens();
    c.due("all", Check.draw(x, "16c" + "/=".repeat(23)), 1152);
    c.due("the last CELL", x.wished(383), 3);
    c.due("none", Check.draw(x, "16." + "/=".repeat(23)), 0);
    c.due("the last CELL", x.wished(383), 0);
  }

  /** "or the FAULT less 10 (the PICTURE stays)". */
  static void p08_aFaultLeavesThePicture(Check c) {
    faulty(c, "cccd", 1, 3);
    faulty(c, "ccc0a", 2, 3);
    faulty(c, "ccc(((((", 3, 7);
    faulty(c, "ccc14c", 4, 3);
    faulty(c, "16c/".repeat(24), 3, 95);
  }

  /** "a 25th ROW (at its "/")". */
  static void p08_24RowsAndThe25th(Check c) {
    String[] rows = new String[24];
    for (int row = 0; row < 24; row++) {
      rows[row] = row % 2 == 0 ? "ab" : "c";
    }
    drawn(c, String.join("/", rows), rows);
    faulty(c, String.join("/", rows) + "/", 3, String.join("/", rows).length());
    faulty(c, String.join("/", rows) + "/a", 3, String.join("/", rows).length());
    String[] empty = new String[24];
    java.util.Arrays.fill(empty, "");
    drawn(c, "/".repeat(23), empty);
    faulty(c, "/".repeat(24), 3, 23);
    faulty(c, "/".repeat(30), 3, 23);
    faulty(c, "a" + "/=".repeat(24), 3, 47);
  }

  /** "an ITEM .. with which a ROW would have more than 16 COLUMNS". */
  static void p08_16ColumnsAndThe17th(Check c) {
    drawn(c, "a".repeat(16), "a".repeat(16));
    faulty(c, "a".repeat(17), 4, 16);
    drawn(c, "16b", "b".repeat(16));
    faulty(c, "16bb", 4, 3);
    faulty(c, "16b.", 4, 3);
    drawn(c, "10a6b", "a".repeat(10) + "b".repeat(6));
    faulty(c, "10a7b", 4, 3);
    drawn(c, "8(ab)", "ab".repeat(8));
    faulty(c, "a8(ab)", 4, 1);
    drawn(c, "(8a)!", "a".repeat(16));
    faulty(c, "(9a)!", 4, 0);
    drawn(c, "2(4(ab))", "ab".repeat(8));
    faulty(c, "3(3(ab))", 4, 0);
    drawn(c, "16a()16()()!", "a".repeat(16));
    faulty(c, "16a()b", 4, 5);
    faulty(c, "c/16a/=/16ab/=", 4, 11);
  }

  /** FAULT 4: "the outermost one, at its first byte". */
  static void p08_theOutermostItemAtItsFirstByte(Check c) {
    faulty(c, "a(b(c(16a)))", 4, 1);
    faulty(c, "ab2(b(c(8a)))!", 4, 2);
    faulty(c, "a002(9b)", 4, 1);
    faulty(c, "16(16(16(16(16a)!)!)!)!", 4, 0);
  }

  /** "N: one or more digits, as many as stand there, 1 to 16". */
  static void p08_nIs1To16(Check c) {
    faulty(c, "0a", 2, 0);
    drawn(c, "1a", "a");
    drawn(c, "16a", "a".repeat(16));
    faulty(c, "17a", 2, 0);
    faulty(c, "b0(a)", 2, 1);
    drawn(c, "b1(a)", "ba");
    drawn(c, "16(a)", "a".repeat(16));
    faulty(c, "b17()", 2, 1);
    drawn(c, "a16()", "a");
    faulty(c, "2147483648a", 2, 0);
    faulty(c, "4294967297a", 2, 0);
    faulty(c, "18446744073709551617a", 2, 0);
  }

  /** "as many as stand there": zeros ahead do no harm, and all digits are one N. */
  static void p08_nHasAllDigitsThatStandThere(Check c) {
    drawn(c, "01a", "a");
    drawn(c, "0000000000000000000016a", "a".repeat(16));
    faulty(c, "0000000000000000000017a", 2, 0);
    faulty(c, "00a", 2, 0);
    faulty(c, "1".repeat(299) + "a", 2, 0);
    drawn(c, "0".repeat(298) + "3a", "aaa");
  }

  /** "perhaps N .. 1 without". */
  static void p08_withoutNOnce(Check c) {
    drawn(c, ".a(b)(c.)!", ".abc..c");
    drawn(c, "1.1a1(1b)1(1c1.)!", ".abc..c");
  }

  /** "so many times (each with its "!")". */
  static void p08_eachTimeWithItsTurn(Check c) {
    drawn(c, "2(ab)!", "abbaabba");
    drawn(c, "2(ab)", "abab");
    drawn(c, "((ab)!c)!", "abbaccabba");
    drawn(c, "2(2(a.)!)", "a..aa..aa..aa..a");
    drawn(c, "()!3()!", "");
  }

  /** "a 5th "(" that is open at one time". */
  static void p08_fourBracketsAndThe5th(Check c) {
    drawn(c, "((((a))))", "a");
    faulty(c, "(((((a)))))", 3, 4);
    drawn(c, "((((a)b)c)a)", "abca");
    faulty(c, "a2(2(2(2(2(a)))))", 3, 10);
    faulty(c, "(((((", 3, 4);
    faulty(c, "((((", 1, 4);
  }

  /** "open at one time": one that is closed counts no more. */
  static void p08_closedBracketsDoNotCount(Check c) {
    drawn(c, "()()()()()()", "");
    drawn(c, "(((()()()()()a)))", "a");
    drawn(c, "(((())))((((b))))", "b");
    faulty(c, "(((()()(()))))", 3, 8);
    drawn(c, "((((a))))/((((b))))", "a", "b");
  }

  /** ""=" alone (as the ROW ahead; not in the first one)". */
  static void p08_asTheRowAheadButNotTheFirst(Check c) {
    faulty(c, "=", 1, 0);
    faulty(c, "=/a", 1, 0);
    drawn(c, "a/=", "a", "a");
    drawn(c, "/=", "", "");
    drawn(c, "ab//=", "ab", "", "");
    drawn(c, "ab/=/=/c/=", "ab", "ab", "ab", "c", "c");
    drawn(c, "16c/a/=", "c".repeat(16), "a", "a");
  }

  /** ""=" alone". */
  static void p08_theEqualSignStandsAlone(Check c) {
    faulty(c, "a/=b", 1, 3);
    faulty(c, "a/==", 1, 3);
    faulty(c, "a/b=", 1, 3);
    faulty(c, "a/2=", 1, 3);
    faulty(c, "a/=2", 1, 3);
    faulty(c, "a/=!", 1, 3);
    faulty(c, "a/(=)", 1, 3);
    faulty(c, "a/()=", 1, 4);
    faulty(c, "a/=()", 1, 3);
  }

  /** ""(" { ITEM } ")", perhaps "!" behind it": behind brackets, once. */
  static void p08_turnedBehindBracketsOnce(Check c) {
    drawn(c, "(ab)!", "abba");
    faulty(c, "(ab)!!", 1, 5);
    faulty(c, "a!", 1, 1);
    faulty(c, "2a!", 1, 2);
    faulty(c, "!", 1, 0);
    faulty(c, "2!", 1, 1);
    faulty(c, "(!)", 1, 1);
    faulty(c, "(a!)", 1, 2);
    faulty(c, "(a) !", 1, 3);
    faulty(c, "/!", 1, 1);
    drawn(c, "(a)!(b)!", "aabb");
  }

  /** "ROWS, "/" between two of them", "{ ITEM }": none is enough. */
  static void p08_emptyRowsAndBrackets(Check c) {
    drawn(c, "/", "", "");
    drawn(c, "/a", "", "a");
    drawn(c, "a/", "a", "");
    drawn(c, "a//b", "a", "", "b");
    drawn(c, "()", "");
    drawn(c, "2()a", "a");
    drawn(c, "(()())a", "a");
  }

  /** "1 what can't stand there (at the length, if the text ends too early)". */
  static void p08_theTextEndsTooEarly(Check c) {
    faulty(c, "3", 1, 1);
    faulty(c, "16", 1, 2);
    faulty(c, "(", 1, 1);
    faulty(c, "(a", 1, 2);
    faulty(c, "(a2", 1, 3);
    faulty(c, "((a)", 1, 4);
    faulty(c, "a/b/3", 1, 5);
    faulty(c, "0".repeat(299) + "1", 1, 300);
    faulty(c, "()".repeat(149) + "a(", 1, 300);
  }

  /** "1 what can't stand there": every byte as the whole of a text. */
  static void p08_everyByteAlone(Check c) {
    for (int sign = 0; sign < 256; sign++) {
      DropPens x = new DropPens();
      x.feed(sign << 24, 0x61616161, 0x61616161, 0x61616161, 0x61616161);
      boolean stands = sign == '.' || sign == 'a' || sign == 'b' || sign == 'c' || sign == '/';
      boolean begins = sign == '(' || (sign >= '1' && sign <= '9');
      int sum = sign >= 'a' && sign <= 'c' ? sign - 'a' + 1 : 0;
      c.due("byte " + sign, x.picture(1), stands ? sum : sign == '0' ? -8 : -9);
      c.due("place of byte " + sign, x.fault(), stands ? -1 : begins ? 1 : 0);
    }
  }

  /** "1 what can't stand there": every byte behind an ITEM, and in brackets. */
  static void p08_everyByteBehindAnItem(Check c) {
    for (int sign = 0; sign < 256; sign++) {
      DropPens x = new DropPens();
      x.feed('b' << 24 | sign << 16, 0, 0, 0, 0);
      boolean stands = sign == '.' || sign == 'a' || sign == 'b' || sign == 'c' || sign == '/';
      boolean begins = sign == '(' || (sign >= '1' && sign <= '9');
      int sum = 2 + (sign >= 'a' && sign <= 'c' ? sign - 'a' + 1 : 0);
      c.due("byte " + sign, x.picture(2), stands ? sum : sign == '0' ? -8 : -9);
      c.due("place of byte " + sign, x.fault(), stands ? -1 : begins ? 2 : 1);
      x.feed('(' << 24 | sign << 16 | ')' << 8, 0, 0, 0, 0);
      boolean inside = stands && sign != '/';
      int place = sign == ')' || sign == '(' ? (sign == '(' ? 3 : 2) : begins ? 2 : 1;
      c.due("byte " + sign + " in brackets", x.picture(3), inside ? sum - 2 : sign == '0' ? -8 : -9);
      c.due("place of byte " + sign + " in brackets", x.fault(), inside ? -1 : place);
    }
  }

  /** "FAULTS, the first from the left". */
  static void p08_theFirstFaultFromTheLeft(Check c) {
    faulty(c, "d0a", 1, 0);
    faulty(c, "0ad", 2, 0);
    faulty(c, "17d", 2, 0);
    faulty(c, "17", 2, 0);
    faulty(c, "0", 2, 0);
    faulty(c, "0/a", 2, 0);
    faulty(c, "0)", 2, 0);
    faulty(c, "((((0(a", 2, 4);
    faulty(c, "((((1(a", 3, 5);
    faulty(c, "((((d((", 1, 4);
    faulty(c, "16aad", 4, 3);
    faulty(c, "16ada", 1, 3);
    faulty(c, "16aa!", 4, 3);
    faulty(c, "16aa)", 4, 3);
    faulty(c, "/".repeat(23) + "d/", 1, 23);
    faulty(c, "/".repeat(23) + "17a/", 2, 23);
    faulty(c, "/".repeat(23) + "16aa/", 4, 26);
    faulty(c, "/".repeat(24) + "d", 3, 23);
  }

  /** "of one the least". */
  static void p08_ofOnePlaceTheLeastFault(Check c) {
    // a "/" behind an N, or in brackets, can't stand there, be it a 25th ROW's or not
    faulty(c, "/".repeat(23) + "2/", 1, 24);
    faulty(c, "/".repeat(23) + "(/", 1, 24);
    // an N that is none such, and a ROW that would be too long by it
    faulty(c, "17a", 2, 0);
    faulty(c, "a16a", 4, 1);
    faulty(c, "a17a", 2, 1);
  }

  /** "(4 is found when the ITEM ends, 1 to 3 in it are ahead of that.)" */
  static void p08_fault4WhenTheItemEnds(Check c) {
    faulty(c, "(16aa)", 4, 0);
    faulty(c, "(16aad)", 1, 5);
    faulty(c, "(16aa", 1, 5);
    faulty(c, "(16aa/", 1, 5);
    faulty(c, "(16aa0b)", 2, 5);
    faulty(c, "(16aa((((", 3, 8);
    faulty(c, "(16aa)!", 4, 0);
    faulty(c, "(16aa)d", 4, 0);
    faulty(c, "(9a)d", 1, 4);
    faulty(c, "(9a)!d", 4, 0);
    faulty(c, "16a2", 1, 4);
  }

  // ---- 9: fault ----

  /** "The place of the FAULT of the latest picture(); NONE without." */
  static void p09_noneWithout(Check c) {
    DropPens x = new DropPens();
    c.due("no picture() yet", x.fault(), DropPens.NONE);
    x.picture(0);
    c.due("without a FAULT", x.fault(), DropPens.NONE);
  }

  /** "The place .. of the latest picture()". */
  static void p09_theLatestPictureAlone(Check c) {
    DropPens x = new DropPens();
    Check.draw(x, "abcd");
    c.due("at 3", x.fault(), 3);
    Check.draw(x, "d");
    c.due("at 0", x.fault(), 0);
    c.due("asked again", x.fault(), 0);
    Check.draw(x, "a");
    c.due("without", x.fault(), DropPens.NONE);
  }

  /** "at the length, if the text ends too early": no place lies farther behind. */
  static void p09_theFirstPlaceAndTheLast(Check c) {
    DropPens x = new DropPens();
    Check.draw(x, "!");
    c.due("at 0", x.fault(), 0);
    Check.draw(x, "()".repeat(149) + "((");
    c.due("at 300", x.fault(), 300);
  }

  /** A picture() that throws read nothing: the FAULT is that of the latest one that did. */
  static void p09_staysWhenPictureThrows(Check c) {
    DropPens x = new DropPens();
    Check.draw(x, "ab=");
    c.noneSuch("picture(1)", () -> x.picture(1));
    c.due("at 2", x.fault(), 2);
    Check.draw(x, "ab");
    c.noneSuch("picture(-1)", () -> x.picture(-1));
    c.due("without", x.fault(), DropPens.NONE);
  }

  // ---- 10 and 11: wished, wish ----

  /** "IndexOutOfBoundsException: no such CELL". */
  static void p10_cellsAre0To383(Check c) {
    Edges.within(c, 0, 383, Edges.NO_INDEX, DropPens::wished);
  }

  /** "a CELL: 16 ROW + COLUMN". */
  static void p10_cellsByRowsThenColumns(Check c) {
    DropPens x = new DropPens();
    Check.draw(x, "15.a/b" + "/".repeat(22) + "15.c");
    c.due("ROW 0, COLUMN 14", x.wished(14), 0);
    c.due("ROW 0, COLUMN 15", x.wished(15), 1);
    c.due("ROW 1, COLUMN 0", x.wished(16), 2);
    c.due("ROW 23, COLUMN 14", x.wished(382), 0);
    c.due("ROW 23, COLUMN 15", x.wished(383), 3);
  }

  /** "IndexOutOfBoundsException: no such CELL (so below)". */
  static void p11_cellsAre0To383(Check c) {
    Edges.within(c, 0, 383, Edges.NO_INDEX, (x, v) -> x.wish(v, 1));
  }

  /** "WISHED in each CELL 0 to 3 drops". */
  static void p11_dropsAre0To3(Check c) {
    Edges.within(c, 0, 3, Edges.NONE_SUCH, (x, v) -> x.wish(17, v));
    DropPens x = new DropPens();
    for (int v = 0; v <= 3; v++) {
      c.due("what it was", x.wish(17, v), Math.max(0, v - 1));
      c.due("what it is", x.wished(17), v);
      c.due("drops WISHED", x.count(1), v);
    }
  }

  /** Of both exceptions the one that the face names first. */
  static void p11_noCellIsAheadOfNoDrops(Check c) {
    Edges.refused(c, "CELL 384, 4 drops", Edges.NO_INDEX, x -> x.wish(384, 4));
    Edges.refused(c, "CELL -1, -1 drops", Edges.NO_INDEX, x -> x.wish(-1, -1));
  }

  /** One CELL is WISHED otherwise, those beside it are not. */
  static void p11_theCellsBesideStay(Check c) {
    DropPens x = new DropPens();
    x.wish(16, 3);
    for (int cell : new int[] {0, 15, 17, 32}) {
      c.due("CELL " + cell, x.wished(cell), 0);
    }
    c.due("COLUMN 0 is dealt", x.cost(0), 27);
    c.due("COLUMN 1 is not", x.cost(1), 0);
  }
}
