import java.io.IOException;
import java.lang.reflect.InvocationTargetException;
import java.lang.reflect.Method;
import java.nio.file.Files;
import java.nio.file.Path;
import java.util.List;
import java.util.Set;
import java.util.TreeSet;
import java.util.regex.Matcher;
import java.util.regex.Pattern;

/** The example of README.md: each call is made as it stands there, and answers what stands behind it. */
public final class ReadmeTest {
  private static final Path README = Path.of("README.md");
  private static final Pattern CALL = Pattern.compile("pens\\.(\\w+)\\((.*)\\); +// (throws \\w+|[-\\w]+): .+");
  private static final Pattern MADE = Pattern.compile("(DropPens )?pens = new DropPens\\(\\);");
  /** So many calls an object is used for. */
  private static final int MOST_CALLS = 512;

  private final Check check = new Check("ReadmeTest");
  private final Set<String> shown = new TreeSet<>();
  private DropPens pens = null;
  private int calls = 0;

  public static void main(String[] args) throws IOException, IllegalAccessException {
    String text = Files.readString(README);
    ReadmeTest t = new ReadmeTest();
    t.example(text);
    t.everyMethodIsShown();
    t.check.due("how to run the tests", text.contains("`bash .ci/run`"), true);
    t.check.due("which is there", Files.isExecutable(Path.of(".ci/run")), true);
    t.check.end();
  }

  private void example(String text) throws IllegalAccessException {
    String fence = "```java\n";
    int from = text.indexOf(fence);
    check.due("there is an example", from >= 0, true);
    int start = from + fence.length();
    for (String row : List.of(text.substring(start, text.indexOf("```", start)).split("\n"))) {
      if (MADE.matcher(row).matches()) {
        pens = new DropPens();
        calls = 0;
      } else if (!row.isEmpty() && !row.startsWith("//")) {
        call(row);
      }
    }
  }

  private void call(String row) throws IllegalAccessException {
    Matcher m = CALL.matcher(row);
    if (!m.matches() || pens == null) {
      check.tell("no call with its answer: " + row);
      return;
    }
    calls++;
    check.due("calls of one object", calls <= MOST_CALLS, true);
    shown.add(m.group(1));
    check.same(m.group(1) + "(" + m.group(2) + ")", answer(method(m.group(1)), m.group(2)), m.group(3));
  }

  private String answer(Method method, String texts) throws IllegalAccessException {
    String[] parts = texts.isEmpty() ? new String[0] : texts.split(", ");
    Object[] arguments = new Object[parts.length];
    for (int i = 0; i < parts.length; i++) {
      arguments[i] = argument(parts[i]);
    }
    try {
      Object answered = method.invoke(pens, arguments);
      return answered == null ? "nothing" : answered.toString();
    } catch (InvocationTargetException e) {
      return "throws " + e.getCause().getClass().getSimpleName();
    }
  }

  /** A number, a sum of products of numbers, NONE, or a boolean. */
  private static Object argument(String text) {
    if (text.equals("true") || text.equals("false")) {
      return Boolean.valueOf(text);
    }
    if (text.equals("DropPens.NONE")) {
      return DropPens.NONE;
    }
    int sum = 0;
    for (String product : text.split(" \\+ ")) {
      int all = 1;
      for (String number : product.split(" \\* ")) {
        all *= Integer.decode(number);
      }
      sum += all;
    }
    return sum;
  }

  private static Method method(String name) {
    for (Method m : DropPens.class.getMethods()) {
      if (m.getName().equals(name) && m.getDeclaringClass() == DropPens.class) {
        return m;
      }
    }
    throw new IllegalArgumentException(name);
  }

  private void everyMethodIsShown() {
    for (Method m : DropPens.class.getMethods()) {
      if (m.getDeclaringClass() == DropPens.class) {
        check.due(m.getName() + " is shown", shown.contains(m.getName()), true);
      }
    }
  }
}
