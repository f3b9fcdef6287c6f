import java.lang.reflect.InvocationTargetException;
import java.lang.reflect.Method;
import java.lang.reflect.Modifier;
import java.util.ArrayList;
import java.util.Arrays;
import java.util.Comparator;
import java.util.HashMap;
import java.util.List;
import java.util.Map;
import java.util.Random;

/** All promises: long runs of calls, ordinary, at the edges and wrong ones, beside the plain model. */
public final class RunsTest {
  private static final int TOO_MANY_TO_TRY = -99;
  private final Check check = new Check("RunsTest");
  private final Random random;
  /** Of 1,000 arguments so many are strange ones. */
  private int strange = 25;
  private final Map<String, int[]> ranges = new HashMap<>();
  private final Map<String, Integer> weights = new HashMap<>();
  private final List<Method> bag = new ArrayList<>();
  private final Map<Method, Method> plainly = new HashMap<>();

  /** Least and most of each argument; a boolean has none. */
  private void range(String name, int weight, int... leastAndMost) {
    ranges.put(name, leastAndMost);
    weights.put(name, weight);
  }

  private RunsTest(long seed) throws NoSuchMethodException {
    random = new Random(seed);
    range("lean", 6, 0, 23, -2, 2);
    range("shut", 6, 0, 23);
    range("pass", 8, -24, 24);
    range("clear", 1);
    range("set", 5, 0, 5, 0, 60);
    range("feed", 0);
    range("picture", 0, 0, 300);
    range("fault", 1);
    range("wished", 2, 0, 383);
    range("wish", 25, 0, 383, 0, 3);
    range("cost", 4, -1, 15);
    range("given", 8, 0, 15, 0, 3, 0, 23);
    range("way", 4, -1, 15, 0, 3);
    range("fill", 3, 0, 3000);
    range("print", 4);
    range("dots", 3, 0, 383);
    range("wrong", 2);
    range("waited", 4, 0, 23);
    range("spit", 1);
    range("ink", 3, 0, 4);
    range("tones", 2, -2, 2, -1, 1);
    range("swing", 3, 0, 4095, 1, 7, 1, 7, 0, 2);
    range("push", 2, 1, 7, 1, 7, -6, 6, 0, 11);
    range("search", 1, 2, 8, 0, 2);
    range("test", 4, 0, 7, 0, 7);
    range("dead", 3, -1, 7);
    range("fewest", 1);
    range("next", 1);
    range("bad", 5, 0, 9, 0, 8);
    range("plan", 2, 1, 10, -2, 9);
    range("clean", 1, 1, 10);
    range("share", 3, 1, 3, 0, 100);
    range("limit", 2, 0, 100);
    range("phase", 8, 0, 23, 0, 2);
    range("pace", 4, 0, 15, 0, 3, 0, 23);
    range("slow", 4, 0, 15, 0, 3);
    range("worst", 3, 0, 23);
    range("phases", 8, 0, 15, 0, 3, -2, 23);
    range("goes", 5, 0, 3, 0, 3, 0, 50);
    range("odds", 6, 0, 3, 0, 3, 0, 30, -1, 61);
    range("likely", 2, 0, 3, 0, 30);
    range("below", 3, 0, 3, 0, 3, 0, 100);
    range("toll", 5, 0, 23, 0, 50);
    range("bound", 3, 0, 15);
    range("proved", 2, 0, 15);
    range("climb", 1, 0, 15);
    range("seen", 2, 0, 23);
    range("stripe", 1);
    range("digest", 4);
    range("mark", 1);
    range("back", 1);
    range("count", 4, 0, 6);
    Method[] face = DropPens.class.getDeclaredMethods();
    Arrays.sort(face, Comparator.comparing(Method::getName));
    for (Method m : face) {
      if (Modifier.isPublic(m.getModifiers())) {
        plainly.put(m, Plain.class.getDeclaredMethod(m.getName(), m.getParameterTypes()));
        for (int i = 0; i < weights.get(m.getName()); i++) {
          bag.add(m);
        }
      }
    }
  }

  private int number(int least, int most) {
    if (random.nextInt(1000) >= strange) {
      return least + random.nextInt(most - least + 1);
    }
    switch (random.nextInt(6)) {
      case 0:
        return random.nextInt();
      case 1:
        return random.nextBoolean() ? Integer.MIN_VALUE : Integer.MAX_VALUE;
      case 2:
        return random.nextInt(410) - 5;
      case 3:
        return 1 << random.nextInt(32);
      default:
        return random.nextBoolean() ? least - 1 : most + 1;
    }
  }

  private Object[] arguments(Method m) {
    int[] r = ranges.get(m.getName());
    Class<?>[] types = m.getParameterTypes();
    Object[] a = new Object[types.length];
    int at = 0;
    for (int i = 0; i < a.length; i++) {
      if (types[i] == boolean.class) {
        a[i] = random.nextBoolean();
      } else {
        a[i] = number(r[at], r[at + 1]);
        at += 2;
      }
    }
    // most passes that are asked for should be there, and offsets that leave DROPS on the PAPER
    if (m.getName().equals("pass") && random.nextInt(3) > 0) {
      a[0] = random.nextInt(7) - 3;
    }
    if (m.getName().equals("push") && random.nextInt(4) > 0) {
      a[0] = 1 + random.nextInt(5);
    }
    return a;
  }

  private static String call(Object on, Method m, Object[] a) throws IllegalAccessException {
    try {
      return String.valueOf(m.invoke(on, a));
    } catch (InvocationTargetException e) {
      return "throws." + e.getCause().getClass().getSimpleName();
    }
  }

  private void both(int run, DropPens x, Plain y, Method m, Object[] a) throws IllegalAccessException {
    String want = call(y, plainly.get(m), a);
    String got = call(x, m, a);
    boolean same = got.equals(want) || want.equals(String.valueOf(TOO_MANY_TO_TRY));
    if (!same) {
      check.tell("run " + run + ": " + m.getName() + Arrays.toString(a) + " answered " + got + ", plain " + want);
    } else {
      check.due("run", 0, 0);
    }
  }

  /** A text of a picture, sometimes with something that can't stand there. */
  private String text() {
    StringBuilder s = new StringBuilder();
    int rows = random.nextInt(10) == 0 ? 20 + random.nextInt(6) : 1 + random.nextInt(12);
    for (int row = 0; row < rows; row++) {
      s.append(row > 0 ? "/" : "");
      if (row > 0 && random.nextInt(5) == 0) {
        s.append("=");
      } else {
        items(s, random.nextInt(3), 16);
      }
    }
    if (random.nextInt(4) == 0 && s.length() > 0) {
      String odd = "d!)(=/.90 ";
      s.insert(random.nextInt(s.length() + 1), odd.charAt(random.nextInt(odd.length())));
    }
    return s.length() > 300 ? s.substring(0, 300) : s.toString();
  }

  private void items(StringBuilder s, int depth, int room) {
    int many = random.nextInt(4);
    int left = room / Math.max(1, many);
    for (int i = 0; i < many; i++) {
      int times = 1 + random.nextInt(Math.max(1, left / 2 + (random.nextInt(8) == 0 ? 2 : 0)));
      s.append(times > 1 ? (random.nextInt(9) == 0 ? "0" : "") + times : "");
      if (depth > 0 && left >= 4) {
        s.append("(");
        boolean turned = random.nextInt(3) == 0;
        items(s, depth - 1, Math.max(1, left / times / (turned ? 2 : 1)));
        s.append(turned ? ")!" : ")");
      } else {
        s.append("..abc".charAt(random.nextInt(5)));
      }
    }
  }

  private void draw(int run, DropPens x, Plain y) {
    String text = text();
    for (int i = 0; i < text.length(); i += 20) {
      int[] w = new int[5];
      for (int j = 0; j < 5; j++) {
        w[j] = Check.word(text, i + 4 * j);
      }
      check.due("feed", x.feed(w[0], w[1], w[2], w[3], w[4]), y.feed(w[0], w[1], w[2], w[3], w[4]));
    }
    String name = "run " + run + ": picture " + text;
    check.due(name, x.picture(text.length()), y.picture(text.length()));
    check.due(name + " fault", x.fault(), y.fault());
    check.due(name + " digest", x.digest(), y.digest());
  }

  private void run(int run) throws IllegalAccessException {
    DropPens x = new DropPens();
    Plain y = new Plain();
    for (int i = 0; i < 1 + random.nextInt(3); i++) {
      int offset = random.nextInt(9) - 4;
      check.due("pass", x.pass(offset), y.pass(offset));
    }
    check.due("fill", x.fill(700), y.fill(700));
    for (int i = 0; i < 220; i++) {
      if (i % 50 == 5) {
        draw(run, x, y);
      }
      Method m = bag.get(random.nextInt(bag.size()));
      both(run, x, y, m, arguments(m));
    }
    check.due("run " + run + ": digest", x.digest(), y.digest());
  }

  public static void main(String[] args) throws ReflectiveOperationException {
    long seed = args.length > 0 ? Long.parseLong(args[0]) : 1;
    int runs = args.length > 1 ? Integer.parseInt(args[1]) : 150;
    RunsTest t = new RunsTest(seed);
    for (int run = 0; run < runs; run++) {
      t.strange = run % 5 == 4 ? 400 : 25;
      t.run(run);
    }
    t.check.end();
  }
}
