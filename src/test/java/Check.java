/** Compares answers with those that are due, prints each that differs, and ends a test. */
final class Check {
  /** A call whose answer, or whose exception, is looked at. */
  interface Call {
    long answer();
  }

  private final String test;
  /** The name of the test that runs now; empty where a class has no names of its own. */
  private String name = "";
  private int looked = 0;
  private int wrong = 0;

  Check(String test) {
    this.test = test;
  }

  void begin(String newName) {
    name = " " + newName;
  }

  int looked() {
    return looked;
  }

  void due(String call, long got, long want) {
    looked++;
    if (got != want) {
      tell(call + " answered " + got + ", due is " + want);
    }
  }

  void same(String call, String got, String want) {
    looked++;
    if (!got.equals(want)) {
      tell(call + " is " + got + ", due is " + want);
    }
  }

  void due(String call, boolean got, boolean want) {
    due(call, got ? 1 : 0, want ? 1 : 0);
  }

  /** The very class is due: an exception of the machine is often a child of the one that is due. */
  void throwing(String call, Class<? extends RuntimeException> want, Call made) {
    looked++;
    String got;
    try {
      got = "answered " + made.answer();
    } catch (RuntimeException e) {
      if (e.getClass() == want) {
        return;
      }
      got = "threw " + e;
    }
    tell(call + " " + got + ", due is " + want.getSimpleName());
  }

  /** Whatever it answers, no exception is due. */
  void taken(String call, Call made) {
    looked++;
    try {
      made.answer();
    } catch (RuntimeException e) {
      tell(call + " threw " + e + ", but is to be taken");
    }
  }

  void noHole(String call, Call made) {
    throwing(call, IndexOutOfBoundsException.class, made);
  }

  void noneSuch(String call, Call made) {
    throwing(call, IllegalArgumentException.class, made);
  }

  void noState(String call, Call made) {
    throwing(call, IllegalStateException.class, made);
  }

  void noPass(String call, Call made) {
    throwing(call, java.util.NoSuchElementException.class, made);
  }

  void tell(String what) {
    wrong++;
    if (wrong <= 40) {
      System.out.println(test + name + ": " + what);
    }
  }

  /** Texts go on the TAPE in twenties; the answer of picture() for just the text. */
  static int draw(DropPens x, String text) {
    feed(x, text);
    return x.picture(text.length());
  }

  static void feed(DropPens x, String text) {
    for (int i = 0; i < text.length(); i += 20) {
      x.feed(word(text, i), word(text, i + 4), word(text, i + 8), word(text, i + 12), word(text, i + 16));
    }
  }

  static int word(String text, int from) {
    int w = 0;
    for (int i = from; i < from + 4; i++) {
      w = w << 8 | (i < text.length() ? text.charAt(i) & 255 : 0);
    }
    return w;
  }

  void end() {
    System.out.println(test + ": " + looked + " looked at, " + wrong + " wrong");
    if (wrong != 0) {
      System.exit(1);
    }
  }
}
