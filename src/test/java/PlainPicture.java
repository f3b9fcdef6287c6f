import java.util.ArrayList;
import java.util.List;

/** A PICTURE read plainly: no byte is passed twice, and what is open lies on a heap of its own. */
final class PlainPicture {
  int fault = 0;
  int place = -1;
  int[] cells = new int[384];

  private static final class Open {
    final long times;
    final StringBuilder inside = new StringBuilder();
    long wide = 0;

    Open(long times) {
      this.times = times;
    }
  }

  PlainPicture(String text) {
    String ahead = null;
    int at = 0;
    for (int row = 0; ; row++) {
      StringBuilder line = new StringBuilder();
      if (row > 0 && text.startsWith("=", at)) {
        line.append(ahead);
        at++;
      } else {
        at = items(text, at, line);
        if (fault != 0) {
          return;
        }
      }
      for (int c = 0; c < line.length(); c++) {
        cells[16 * row + c] = ".abc".indexOf(line.charAt(c));
      }
      ahead = line.toString();
      if (at == text.length()) {
        return;
      }
      if (text.charAt(at) != '/') {
        fault(1, at);
        return;
      }
      if (row == 23) {
        fault(3, at);
        return;
      }
      at++;
    }
  }

  private void fault(int kind, int where) {
    fault = kind;
    place = where;
  }

  /** ITEMS up to a "/" or the end: where it stopped. */
  private int items(String text, int from, StringBuilder line) {
    List<Open> open = new ArrayList<>();
    int at = from;
    int start = from;
    while (at < text.length() && (text.charAt(at) != '/' || !open.isEmpty())) {
      start = open.isEmpty() ? at : start;
      if (text.charAt(at) == ')' && !open.isEmpty()) {
        Open o = open.remove(open.size() - 1);
        at++;
        boolean turned = text.startsWith("!", at);
        at += turned ? 1 : 0;
        String once = o.inside.toString() + (turned ? new StringBuilder(o.inside).reverse() : "");
        start = open.isEmpty() ? groupStart : start;
        add(open, line, once, o.wide * (turned ? 2 : 1), o.times, start);
      } else {
        int first = at;
        while (at < text.length() && Character.isDigit(text.charAt(at))) {
          at++;
        }
        long times = 1;
        if (at > first) {
          java.math.BigInteger n = new java.math.BigInteger(text.substring(first, at));
          if (n.signum() == 0 || n.compareTo(java.math.BigInteger.valueOf(16)) > 0) {
            fault(2, first);
            return at;
          }
          times = n.intValue();
        }
        if (at == text.length() || "(.abc".indexOf(text.charAt(at)) < 0) {
          fault(1, at);
          return at;
        }
        if (text.charAt(at) == '(') {
          if (open.size() == 4) {
            fault(3, at);
            return at;
          }
          groupStart = open.isEmpty() ? first : groupStart;
          open.add(new Open(times));
        } else {
          add(open, line, text.substring(at, at + 1), 1, times, first);
        }
        at++;
      }
      if (fault != 0) {
        return at;
      }
    }
    if (!open.isEmpty()) {
      fault(1, at);
    }
    return at;
  }

  private int groupStart = 0;

  private void add(List<Open> open, StringBuilder line, String once, long wide, long times, int start) {
    boolean outermost = open.isEmpty();
    StringBuilder to = outermost ? line : open.get(open.size() - 1).inside;
    long all = Math.min(1000000, wide * times);
    if (outermost && line.length() + all > 16) {
      fault(4, start);
      return;
    }
    if (!outermost) {
      Open o = open.get(open.size() - 1);
      o.wide = Math.min(1000000, o.wide + all);
    }
    // what is too wide is told by numbers alone
    for (long i = 0; i < times && to.length() <= 40; i++) {
      to.append(once);
    }
  }
}
