import java.lang.reflect.InvocationTargetException;
import java.lang.reflect.Method;
import java.lang.reflect.Modifier;
import java.util.ArrayList;
import java.util.Comparator;
import java.util.List;

/**
 * Runs tests that are named for a promise and a case (p08_the25thRow), each for words of the document that name a
 * boundary; and what such tests need: an object in the midst of its work, and all that can be read of one.
 */
final class Edges {
  static final Class<IndexOutOfBoundsException> NO_INDEX = IndexOutOfBoundsException.class;
  static final Class<IllegalArgumentException> NONE_SUCH = IllegalArgumentException.class;
  static final Class<java.util.NoSuchElementException> NO_ELEMENT = java.util.NoSuchElementException.class;

  interface On {
    long answer(DropPens x);
  }

  interface With {
    long answer(DropPens x, int v);
  }

  private Edges() {}

  static void run(Class<?> tests) throws IllegalAccessException {
    Check c = new Check(tests.getSimpleName());
    for (Method m : named(tests)) {
      c.begin(m.getName());
      int before = c.looked();
      try {
        m.invoke(null, c);
      } catch (InvocationTargetException e) {
        c.tell("threw " + e.getCause());
      }
      c.due("it looks at something", c.looked() > before, true);
    }
    c.begin("");
    c.end();
  }

  /** The tests of a class; whatever takes a Check alone has to be one. */
  static List<Method> named(Class<?> tests) {
    List<Method> all = new ArrayList<>();
    for (Method m : tests.getDeclaredMethods()) {
      boolean isTest = m.getParameterCount() == 1 && m.getParameterTypes()[0] == Check.class;
      if (isTest && !(m.getName().matches("p[0-9][0-9]_\\w+") && Modifier.isStatic(m.getModifiers()))) {
        throw new IllegalStateException("no name of a test: " + m.getName());
      }
      if (isTest) {
        all.add(m);
      }
    }
    all.sort(Comparator.comparing(Method::getName));
    return all;
  }

  /** Least and most are taken; one beyond either, and what lies afar, is refused and changes nothing. */
  static void within(Check c, int least, int most, Class<? extends RuntimeException> refusal, With call) {
    for (int v : new int[] {least, most}) {
      DropPens x = busy();
      c.taken(v + "", () -> call.answer(x, v));
    }
    for (int v : new int[] {least - 1, most + 1, Integer.MIN_VALUE, Integer.MAX_VALUE}) {
      refused(c, v + "", refusal, x -> call.answer(x, v));
    }
  }

  /** The call throws just this, and changes nothing. */
  static void refused(Check c, String label, Class<? extends RuntimeException> refusal, On call) {
    DropPens x = busy();
    c.throwing(label, refusal, () -> call.answer(x));
    c.same(label + " changed nothing, so all", everything(x), everything(busy()));
  }

  /** After what was before, the call answers so, and changes nothing. */
  static void idle(Check c, String label, On before, On call, long want) {
    DropPens x = busy();
    DropPens y = busy();
    before.answer(x);
    before.answer(y);
    c.due(label, call.answer(x), want);
    c.same(label + " changed nothing, so all", everything(x), everything(y));
  }

  /** An object that has something of all: 3 PASSES, 2 MARKS, 20 bytes on the TAPE, a search for 8 HOLES. */
  static DropPens busy() {
    DropPens x = new DropPens();
    int[] settings = {2, 11, 13, 4, 7, 5};
    for (int what = 0; what < settings.length; what++) {
      x.set(what, settings[what]);
    }
    x.pass(0);
    x.pass(-3);
    x.pass(5);
    x.lean(1, -1);
    x.lean(7, 2);
    x.shut(4, true);
    x.shut(20, true);
    Check.draw(x, "3a2(b.)!/=//16c/2(a5.)");
    x.wish(200, 3);
    x.wish(383, 1);
    x.fill(500);
    x.print();
    x.spit();
    x.phase(0, 2);
    x.phase(6, 1);
    x.toll(3, 12);
    x.toll(23, 50);
    x.bad(0, 8);
    x.bad(3, 2);
    x.tones(-2, -1);
    x.search(8, 2);
    x.test(1, 5, true);
    x.share(1, 20);
    x.share(3, 5);
    x.limit(70);
    x.goes(0, 1, 30);
    x.goes(0, 3, 20);
    x.goes(2, 0, 100);
    x.mark();
    x.wish(201, 2);
    x.clear();
    x.pass(1);
    x.pass(2);
    x.pass(-2);
    x.mark();
    x.lean(9, 1);
    x.print();
    Check.draw(x, "a/d");
    Check.feed(x, "3a2(b.)!/2c/=/b.a/cc");
    return x;
  }

  /** All that can be read; the object is spent then. */
  static String everything(DropPens x) {
    StringBuilder s = new StringBuilder();
    s.append("digest ").append(x.digest()).append(", fault ").append(x.fault()).append(", counts");
    for (int what = 0; what < 7; what++) {
      s.append(' ').append(x.count(what));
    }
    s.append(", cost ").append(x.cost(-1)).append(", ways");
    for (int what = 0; what < 4; what++) {
      s.append(' ').append(x.way(-1, what));
    }
    s.append(", settings");
    for (int what = 0; what < 6; what++) {
      s.append(' ').append(x.set(what, 1));
    }
    // y is 1, P, P P - Q: so the SPEEDS at TICKS 3 and 4 of this push tell P and Q
    int pushed = 3 + 8 * 2 + 64 * 2 + 512 * 2;
    s.append(", tones by ").append(x.swing(pushed, 4, 3, 0)).append(' ').append(x.swing(pushed, 4, 4, 0));
    appendSearch(s, x);
    s.append(", LIMIT ").append(x.limit(0)).append(", SHARES");
    for (int away = 1; away <= 3; away++) {
      s.append(' ').append(x.share(away, 0));
    }
    s.append(", GOES");
    for (int i = 0; i < 16; i++) {
      s.append(i / 4 == i % 4 ? "" : " " + x.goes(i / 4, i % 4, 0));
    }
    s.append(", TAPE ").append(x.picture(x.count(4))).append(' ').append(x.fault()).append(' ').append(x.digest());
    s.append(", MARKS");
    for (int left = x.back(); left >= 0; left = x.back()) {
      s.append(' ').append(left).append(':').append(x.digest());
    }
    return s.toString();
  }

  private static void appendSearch(StringBuilder s, DropPens x) {
    s.append(", search");
    try {
      s.append(' ').append(x.fewest()).append(' ').append(x.next()).append(' ').append(x.dead(-1));
      for (int hole = 0; hole < 8; hole++) {
        s.append(' ').append(x.dead(hole));
      }
    } catch (IllegalStateException e) {
      s.append(" none");
    } catch (IllegalArgumentException e) {
      s.append(" no more");
    }
  }
}
