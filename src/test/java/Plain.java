import java.math.BigInteger;
import java.util.ArrayList;
import java.util.Arrays;
import java.util.HashMap;
import java.util.List;
import java.util.Map;
import java.util.NoSuchElementException;

/** The document once more, as slow and plain as can be, for runs of calls beside DropPens. */
final class Plain {
  private static final class Kept {
    int[] lean = new int[24];
    boolean[] shut = new boolean[24];
    int[] waited = new int[24];
    int[] phase = new int[24];
    List<Integer> passes = new ArrayList<>();
    int[] wished = new int[384];
    int[] dots = new int[384];
    int[] ink = new int[5];
    int[] toll = new int[24];
    int[] fresh = new int[10];

    Kept copy() {
      Kept k = new Kept();
      k.lean = lean.clone();
      k.shut = shut.clone();
      k.waited = waited.clone();
      k.phase = phase.clone();
      k.passes = new ArrayList<>(passes);
      k.wished = wished.clone();
      k.dots = dots.clone();
      k.ink = ink.clone();
      k.toll = toll.clone();
      k.fresh = fresh.clone();
      return k;
    }
  }

  private Kept k = new Kept();
  private final List<Kept> marks = new ArrayList<>();
  private final int[] setting = {1, 9, 20, 2, 9, 3};
  private String tape = "";
  private int faultPlace = -1;
  private int prints = 0;
  private int toneP = 1;
  private int toneQ = 1;
  private int tried = 0;
  private int told = 0;
  private List<Integer> sets = new ArrayList<>();
  private final int[] share = {0, 30, 10, 0};
  private int limit = 60;
  private final int[][] goes = new int[4][4];

  private static void index(boolean ok) {
    if (!ok) {
      throw new IndexOutOfBoundsException();
    }
  }

  private static void argument(boolean ok) {
    if (!ok) {
      throw new IllegalArgumentException();
    }
  }

  private static boolean in(int v, int least, int most) {
    return least <= v && v <= most;
  }

  private void passIs(int pass) {
    if (!in(pass, 0, k.passes.size() - 1)) {
      throw new NoSuchElementException();
    }
  }

  int lean(int hole, int v) {
    index(in(hole, 0, 23));
    argument(in(v, -2, 2));
    if (k.shut[hole]) {
      return -3;
    }
    int was = k.lean[hole];
    k.lean[hole] = v;
    return was;
  }

  boolean shut(int hole, boolean is) {
    index(in(hole, 0, 23));
    boolean was = k.shut[hole];
    k.shut[hole] = is;
    return was;
  }

  int pass(int offset) {
    argument(in(offset, -24, 24));
    if (k.passes.size() == 4) {
      return -1;
    }
    k.passes.add(offset);
    return k.passes.size() - 1;
  }

  int clear() {
    int were = k.passes.size();
    k.passes.clear();
    return were;
  }

  int set(int what, int v) {
    argument(in(what, 0, 5));
    int[] least = {0, 1, 1, 0, 0, 0};
    int[] most = {2, 50, 1000, 100, 100, 100};
    argument(in(v, least[what], most[what]));
    int was = setting[what];
    setting[what] = v;
    return was;
  }

  int feed(int a, int b, int c, int d, int e) {
    if (tape.length() > 280) {
      return -1;
    }
    java.nio.ByteBuffer bytes = java.nio.ByteBuffer.allocate(20).putInt(a).putInt(b).putInt(c).putInt(d).putInt(e);
    for (byte one : bytes.array()) {
      tape += (char) (one & 255);
    }
    return tape.length();
  }

  int picture(int n) {
    argument(in(n, 0, tape.length()));
    String text = tape.substring(0, n);
    tape = "";
    PlainPicture p = new PlainPicture(text);
    faultPlace = p.place;
    if (p.fault != 0) {
      return p.fault - 10;
    }
    k.wished = p.cells;
    return Arrays.stream(k.wished).sum();
  }

  int fault() {
    return faultPlace;
  }

  int wished(int cell) {
    index(in(cell, 0, 383));
    return k.wished[cell];
  }

  int wish(int cell, int v) {
    index(in(cell, 0, 383));
    argument(in(v, 0, 3));
    int was = k.wished[cell];
    k.wished[cell] = v;
    return was;
  }

  /** What a COLUMN is dealt: {row, pass, hole, unit or -1} of each DROP, the rows of the UNITS, the cost. */
  private static final class Dealt {
    List<int[]> drops = new ArrayList<>();
    List<Integer> units = new ArrayList<>();
    int cost;
  }

  private Dealt deal(int column) {
    Dealt d = new Dealt();
    for (int pass = 0; pass < k.passes.size(); pass++) {
      for (int hole = 0; hole < 24; hole++) {
        int row = hole + k.passes.get(pass) + k.lean[hole];
        if (!k.shut[hole] && in(row, 0, 23)) {
          d.drops.add(new int[] {row, pass, hole, -1});
        }
      }
    }
    d.drops.sort((a, b) -> a[0] != b[0] ? a[0] - b[0] : a[1] != b[1] ? a[1] - b[1] : a[2] - b[2]);
    for (int row = 0; row < 24; row++) {
      for (int i = 0; i < k.wished[16 * row + column]; i++) {
        d.units.add(row);
      }
    }
    int n = d.drops.size();
    int m = d.units.size();
    int[][] best = new int[n + 1][m + 1];
    for (int i = n; i >= 0; i--) {
      for (int j = m; j >= 0; j--) {
        best[i][j] = i == n ? setting[1] * (m - j) : best[i + 1][j];
        for (int u = j; i < n && u < m; u++) {
          best[i][j] = Math.min(best[i][j], give(d, best, i, j, u));
        }
      }
    }
    d.cost = best[0][0];
    int j = 0;
    for (int i = 0; i < n; i++) {
      if (best[i + 1][j] == best[i][j]) {
        continue;
      }
      int u = j;
      while (give(d, best, i, j, u) != best[i][j]) {
        u++;
      }
      d.drops.get(i)[3] = u;
      j = u + 1;
    }
    return d;
  }

  private int give(Dealt d, int[][] best, int i, int j, int u) {
    int away = Math.abs(d.drops.get(i)[0] - d.units.get(u));
    return away > setting[0] ? 1000000 : setting[1] * (u - j) + away * away + best[i + 1][u + 1];
  }

  int cost(int column) {
    index(in(column, -1, 15));
    int sum = 0;
    for (int c = 0; c < 16; c++) {
      sum += column == -1 || column == c ? deal(c).cost : 0;
    }
    return sum;
  }

  int given(int column, int pass, int hole) {
    index(in(column, 0, 15) && in(hole, 0, 23));
    passIs(pass);
    return unitRow(deal(column), pass, hole);
  }

  private static int unitRow(Dealt d, int pass, int hole) {
    for (int[] drop : d.drops) {
      if (drop[1] == pass && drop[2] == hole && drop[3] >= 0) {
        return d.units.get(drop[3]);
      }
    }
    return -1;
  }

  int way(int column, int what) {
    index(in(column, -1, 15));
    argument(in(what, 0, 3));
    int sum = 0;
    for (int c = 0; c < 16; c++) {
      if (column == -1 || column == c) {
        Dealt d = deal(c);
        int given = 0;
        int hidden = 0;
        for (int[] drop : d.drops) {
          given += drop[3] >= 0 ? 1 : 0;
          hidden += drop[3] >= 0 && d.units.get(drop[3]) != drop[0] ? 1 : 0;
        }
        sum += new int[] {given, hidden, d.units.size() - given, d.drops.size()}[what];
      }
    }
    return sum;
  }

  int fill(int drops) {
    argument(in(drops, 0, 100000));
    if (k.ink[1] + drops > 1000000) {
      throw new IllegalStateException();
    }
    k.ink[0] += drops;
    k.ink[1] += drops;
    return k.ink[1];
  }

  int print() {
    if (way(-1, 0) > k.ink[1]) {
      return -1;
    }
    Dealt[] dealt = new Dealt[16];
    for (int c = 0; c < 16; c++) {
      dealt[c] = deal(c);
    }
    k.dots = new int[384];
    int lie = 0;
    for (int pass = 0; pass < k.passes.size(); pass++) {
      for (int c = 0; c < 16; c++) {
        for (int hole = 0; hole < 24; hole++) {
          if (unitRow(dealt[c], pass, hole) < 0) {
            k.waited[hole] = Math.min(1000, k.waited[hole] + 1);
            continue;
          }
          k.ink[1]--;
          if (k.waited[hole] > setting[2]) {
            k.ink[3]++;
          } else {
            k.ink[2]++;
            lie++;
            k.dots[16 * (hole + k.passes.get(pass) + k.lean[hole]) + c]++;
          }
          k.waited[hole] = 0;
        }
      }
    }
    prints++;
    return lie;
  }

  int dots(int cell) {
    index(in(cell, 0, 383));
    return k.dots[cell];
  }

  int wrong() {
    int n = 0;
    for (int c = 0; c < 384; c++) {
      n += k.dots[c] != k.wished[c] ? 1 : 0;
    }
    return n;
  }

  int waited(int hole) {
    index(in(hole, 0, 23));
    return k.waited[hole];
  }

  int spit() {
    int n = 24 - count(5);
    if (n > k.ink[1]) {
      return -1;
    }
    for (int hole = 0; hole < 24; hole++) {
      k.waited[hole] = k.shut[hole] ? k.waited[hole] : 0;
    }
    k.ink[1] -= n;
    k.ink[3] += n;
    return n;
  }

  int ink(int what) {
    argument(in(what, 0, 4));
    return k.ink[what];
  }

  void tones(int p, int q) {
    argument(in(p, -2, 2) && (q == 1 || q == -1));
    toneP = p;
    toneQ = q;
  }

  /** SPEED, LEFT, WORK. */
  private int[] swung(int[] volts, int h) {
    int x = 0;
    int y = 0;
    int speed = 0;
    int work = 0;
    for (int t = 1; t <= volts.length; t++) {
      int oldX = x;
      x = y;
      y = toneP * y - toneQ * oldX + volts[t - 1];
      speed = t == h ? x : speed;
      work += Math.abs(volts[t - 1]);
    }
    return new int[] {speed, Math.abs(x) + Math.abs(y), work};
  }

  int swing(int row, int ticks, int h, int what) {
    argument(in(ticks, 1, 7) && in(h, 1, ticks) && in(what, 0, 2));
    int[] volts = new int[ticks];
    long bits = row & 0xffffffffL;
    for (int t = 0; t < ticks; t++) {
      argument(bits % 8 < 5);
      volts[t] = (int) (bits % 8) - 2;
      bits /= 8;
    }
    argument(bits == 0);
    return swung(volts, h)[what];
  }

  int push(int ticks, int h, int speed, int what) {
    argument(in(ticks, 1, 7) && in(h, 1, ticks) && in(speed, -1000000, 1000000));
    argument(in(what, 0, 6) || in(what, 10, 11));
    int[] best = null;
    int[] bestSwung = null;
    int rows = BigInteger.valueOf(5).pow(ticks).intValue();
    int[] volts = new int[ticks];
    for (int r = 0; r < rows; r++) {
      int rest = r;
      for (int t = ticks - 1; t >= 0; t--) {
        volts[t] = rest % 5 - 2;
        rest /= 5;
      }
      int[] s = swung(volts, h);
      if (s[0] == speed
          && (best == null || s[1] < bestSwung[1] || (s[1] == bestSwung[1] && s[2] < bestSwung[2]))) {
        best = volts.clone();
        bestSwung = s;
      }
    }
    if (best == null || (what < 10 && what >= ticks)) {
      return -3;
    }
    return what == 10 ? bestSwung[1] : what == 11 ? bestSwung[2] : best[what];
  }

  int search(int n, int d) {
    argument(in(n, 2, 8) && in(d, 0, 2));
    tried = n;
    told = 0;
    sets = new ArrayList<>();
    for (int s = 0; s < 1 << n; s++) {
      if (Integer.bitCount(s) <= d) {
        sets.add(s);
      }
    }
    return sets.size();
  }

  private void searched() {
    if (tried == 0) {
      throw new IllegalStateException();
    }
  }

  private static List<Integer> seenSo(List<Integer> sets, int first, int last, boolean broken) {
    List<Integer> stay = new ArrayList<>();
    for (int s : sets) {
      boolean is = false;
      for (int h = first; h <= last; h++) {
        is |= (s >> h & 1) == 1;
      }
      if (is == broken) {
        stay.add(s);
      }
    }
    return stay;
  }

  int test(int first, int last, boolean broken) {
    searched();
    argument(0 <= first && first <= last && last < tried);
    if (told == 20) {
      return -1;
    }
    told++;
    sets = seenSo(sets, first, last, broken);
    return sets.size();
  }

  int dead(int hole) {
    searched();
    argument(in(hole, -1, tried - 1));
    int n = 0;
    for (int s : sets) {
      n += hole == -1 || (s >> hole & 1) == 1 ? 1 : 0;
    }
    return n;
  }

  private int runFor(List<Integer> left, int tests, Map<String, Integer> known) {
    String key = tests + ":" + left;
    Integer was = known.get(key);
    if (was != null) {
      return was;
    }
    int found = -1;
    for (int first = 0; first < tried && found < 0; first++) {
      for (int last = first; last < tried && found < 0; last++) {
        boolean good = true;
        for (int b = 0; b < 2 && good; b++) {
          List<Integer> part = seenSo(left, first, last, b == 1);
          good = part.size() <= 1
              || (tests > 1 && part.size() < left.size() && part.size() <= 1 << (tests - 1)
                  && runFor(part, tests - 1, known) >= 0);
        }
        found = good ? 8 * first + last : -1;
      }
    }
    known.put(key, found);
    return found;
  }

  int fewest() {
    searched();
    if (sets.size() <= 1) {
      return sets.size() == 1 ? 0 : -1;
    }
    Map<String, Integer> known = new HashMap<>();
    for (int t = 1; t <= 5; t++) {
      if (sets.size() <= 1 << t && runFor(sets, t, known) >= 0) {
        return t;
      }
    }
    return -1;
  }

  int next() {
    int t = fewest();
    return t <= 0 ? -1 : runFor(sets, t, new HashMap<>());
  }

  int bad(int day, int many) {
    argument(in(day, 0, 9) && in(many, 0, 8));
    int was = k.fresh[day];
    k.fresh[day] = many;
    return was;
  }

  /** Cost, INK, and what is done by DAYS. */
  private int[] planned(int n) {
    int[] best = null;
    int rows = BigInteger.valueOf(3).pow(n).intValue();
    for (int r = 0; r < rows; r++) {
      int[] p = new int[n + 2];
      int rest = r;
      for (int day = n - 1; day >= 0; day--) {
        p[day + 2] = rest % 3;
        rest /= 3;
      }
      int bad = 0;
      for (int day = 0; day < n; day++) {
        bad = Math.min(24, bad + k.fresh[day]);
        if (p[day + 2] == 1) {
          bad = Math.max(0, bad - 2);
          p[1] += setting[3];
        } else if (p[day + 2] == 2) {
          bad = 0;
          p[1] += setting[4];
        }
        p[0] += bad * setting[5];
      }
      p[0] += p[1];
      best = best == null || p[0] < best[0] ? p : best;
    }
    return best;
  }

  int plan(int n, int what) {
    argument(in(n, 1, 10) && in(what, -2, 9));
    return what >= n ? -1 : planned(n)[what == -1 ? 0 : what == -2 ? 1 : what + 2];
  }

  int clean(int n) {
    argument(in(n, 1, 10));
    int amount = planned(n)[1];
    if (amount > k.ink[1]) {
      return -1;
    }
    k.ink[1] -= amount;
    k.ink[4] += amount;
    return amount;
  }

  int share(int away, int v) {
    argument(in(away, 1, 3) && in(v, 0, 100));
    int was = share[away];
    share[away] = v;
    return was;
  }

  int limit(int v) {
    argument(in(v, 0, 100));
    int was = limit;
    limit = v;
    return was;
  }

  int phase(int hole, int v) {
    index(in(hole, 0, 23));
    argument(in(v, 0, 2));
    int was = k.phase[hole];
    k.phase[hole] = v;
    return was;
  }

  private int speed(int hole, int[] phase, boolean[] counts) {
    int p = 100;
    for (int o = 0; o < 24; o++) {
      int away = Math.abs(o - hole);
      p -= away > 0 && away < 4 && counts[o] && phase[o] == phase[hole] ? share[away] : 0;
    }
    return Math.max(0, p);
  }

  private boolean[] thrown(int column, int pass) {
    Dealt d = deal(column);
    boolean[] is = new boolean[24];
    for (int hole = 0; hole < 24; hole++) {
      is[hole] = unitRow(d, pass, hole) >= 0;
    }
    return is;
  }

  private int slowOnes(int[] phase, boolean[] is) {
    int n = 0;
    for (int hole = 0; hole < 24; hole++) {
      n += is[hole] && speed(hole, phase, is) < limit ? 1 : 0;
    }
    return n;
  }

  int pace(int column, int pass, int hole) {
    index(in(column, 0, 15) && in(hole, 0, 23));
    passIs(pass);
    boolean[] is = thrown(column, pass);
    return is[hole] ? speed(hole, k.phase, is) : -1;
  }

  int slow(int column, int pass) {
    index(in(column, 0, 15));
    passIs(pass);
    return slowOnes(k.phase, thrown(column, pass));
  }

  int worst(int hole) {
    index(in(hole, 0, 23));
    boolean[] open = new boolean[24];
    for (int h = 0; h < 24; h++) {
      open[h] = !k.shut[h];
    }
    return speed(hole, k.phase, open);
  }

  /** For up to nine HOLES all PHASES are tried; null beyond. */
  private int[] bestPhases(boolean[] is) {
    List<Integer> holes = new ArrayList<>();
    for (int h = 0; h < 24; h++) {
      if (is[h]) {
        holes.add(h);
      }
    }
    if (holes.size() > 9) {
      return null;
    }
    int[] best = null;
    int rows = BigInteger.valueOf(3).pow(holes.size()).intValue();
    for (int r = 0; r < rows; r++) {
      int[] p = new int[26];
      int rest = r;
      for (int i = holes.size() - 1; i >= 0; i--) {
        p[holes.get(i)] = rest % 3;
        p[25] += rest % 3;
        rest /= 3;
      }
      p[24] = slowOnes(p, is);
      best = best == null || p[24] < best[24] || (p[24] == best[24] && p[25] < best[25]) ? p : best;
    }
    return best;
  }

  /** -99: too many HOLES to try them all. */
  int phases(int column, int pass, int what) {
    index(in(column, 0, 15));
    passIs(pass);
    argument(in(what, -2, 23));
    boolean[] is = thrown(column, pass);
    if (what >= 0 && !is[what]) {
      return -3;
    }
    int[] best = bestPhases(is);
    return best == null ? -99 : best[what == -1 ? 24 : what == -2 ? 25 : what];
  }

  int goes(int from, int to, int v) {
    argument(in(from, 0, 3) && in(to, 0, 3) && from != to && in(v, 0, 100));
    int was = goes[from][to];
    if (Arrays.stream(goes[from]).sum() - was + v > 100) {
      return -1;
    }
    goes[from][to] = v;
    return was;
  }

  private BigInteger chance(int from, int to, int seconds) {
    BigInteger[] is = new BigInteger[4];
    Arrays.fill(is, BigInteger.ZERO);
    is[from] = BigInteger.ONE;
    for (int s = 0; s < seconds; s++) {
      BigInteger[] will = new BigInteger[4];
      for (int b = 0; b < 4; b++) {
        will[b] = is[b].multiply(BigInteger.valueOf(100 - Arrays.stream(goes[b]).sum()));
        for (int a = 0; a < 4; a++) {
          will[b] = will[b].add(is[a].multiply(BigInteger.valueOf(goes[a][b])));
        }
      }
      is = will;
    }
    return is[to];
  }

  int odds(int from, int to, int seconds, int digit) {
    argument(in(from, 0, 3) && in(to, 0, 3) && in(seconds, 0, 30));
    if (!in(digit, 0, 2 * seconds)) {
      return -1;
    }
    return chance(from, to, seconds).divide(BigInteger.TEN.pow(digit)).mod(BigInteger.TEN).intValue();
  }

  int likely(int from, int seconds) {
    argument(in(from, 0, 3) && in(seconds, 0, 30));
    int best = 0;
    for (int s = 1; s < 4; s++) {
      best = chance(from, s, seconds).compareTo(chance(from, best, seconds)) > 0 ? s : best;
    }
    return best;
  }

  int below(int from, int to, int hundredths) {
    argument(in(from, 0, 3) && in(to, 0, 3) && in(hundredths, 0, 100));
    BigInteger hundred = BigInteger.valueOf(100);
    for (int n = 0; n <= 30; n++) {
      BigInteger line = BigInteger.valueOf(hundredths).multiply(hundred.pow(n));
      if (chance(from, to, n).multiply(hundred).compareTo(line) < 0) {
        return n;
      }
    }
    return -1;
  }

  int toll(int row, int v) {
    index(in(row, 0, 23));
    argument(in(v, 0, 50));
    int was = k.toll[row];
    k.toll[row] = v;
    return was;
  }

  private int boundOf(int column) {
    int sum = 0;
    for (int row = 0; row < 24; row++) {
      sum += k.wished[16 * row + column] * Math.min(k.toll[row], setting[1]);
    }
    for (int pass = 0; pass < k.passes.size(); pass++) {
      for (int hole = 0; hole < 24; hole++) {
        int falls = hole + k.passes.get(pass) + k.lean[hole];
        int most = 0;
        for (int row = 0; row < 24; row++) {
          int away = Math.abs(row - falls);
          if (!k.shut[hole] && in(falls, 0, 23) && away <= setting[0] && k.wished[16 * row + column] > 0) {
            most = Math.max(most, Math.min(k.toll[row], setting[1]) - away * away);
          }
        }
        sum -= most;
      }
    }
    return sum;
  }

  int bound(int column) {
    index(in(column, 0, 15));
    return boundOf(column);
  }

  boolean proved(int column) {
    index(in(column, 0, 15));
    return boundOf(column) == deal(column).cost;
  }

  int climb(int column) {
    index(in(column, 0, 15));
    for (int round = 0; round < 10; round++) {
      int[] were = k.toll.clone();
      for (int row = 0; row < 24; row++) {
        int best = 0;
        int most = -1000000;
        for (int v = 0; v <= 50; v++) {
          k.toll[row] = v;
          int b = boundOf(column);
          best = b > most ? v : best;
          most = Math.max(most, b);
        }
        k.toll[row] = best;
      }
      if (Arrays.equals(were, k.toll)) {
        break;
      }
    }
    return boundOf(column);
  }

  private int eye(int row) {
    int[] times = {1, 2, 4, 2, 1};
    int sum = 0;
    for (int i = -2; i <= 2; i++) {
      for (int c = 0; in(row + i, 0, 23) && c < 16; c++) {
        int cell = 16 * (row + i) + c;
        sum += times[i + 2] * (k.dots[cell] - k.wished[cell]);
      }
    }
    return sum;
  }

  int seen(int row) {
    index(in(row, 0, 23));
    return eye(row);
  }

  int stripe() {
    int best = 0;
    for (int row = 1; row < 24; row++) {
      best = Math.abs(eye(row)) > Math.abs(eye(best)) ? row : best;
    }
    return best;
  }

  int digest() {
    List<Integer> all = new ArrayList<>();
    for (int h = 0; h < 24; h++) {
      all.addAll(List.of(k.lean[h], k.shut[h] ? 1 : 0, k.waited[h], k.phase[h]));
    }
    all.addAll(k.passes);
    for (int c = 0; c < 384; c++) {
      all.addAll(List.of(k.wished[c], k.dots[c]));
    }
    for (int[] row : new int[][] {k.ink, k.toll, k.fresh}) {
      for (int v : row) {
        all.add(v);
      }
    }
    BigInteger sum = BigInteger.valueOf(17);
    for (int v : all) {
      sum = sum.multiply(BigInteger.valueOf(31)).add(BigInteger.valueOf(v));
    }
    return sum.intValue();
  }

  int mark() {
    if (marks.size() == 4) {
      return -1;
    }
    marks.add(k.copy());
    return marks.size();
  }

  int back() {
    if (marks.isEmpty()) {
      return -1;
    }
    k = marks.remove(marks.size() - 1);
    return marks.size();
  }

  int count(int what) {
    int shut = 0;
    for (boolean s : k.shut) {
      shut += s ? 1 : 0;
    }
    int[] all = {k.passes.size(), Arrays.stream(k.wished).sum(), prints, told, tape.length(), shut, marks.size()};
    return in(what, 0, 6) ? all[what] : -1;
  }
}
