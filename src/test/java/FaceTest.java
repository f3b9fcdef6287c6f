import java.io.IOException;
import java.lang.reflect.Constructor;
import java.lang.reflect.Field;
import java.lang.reflect.Method;
import java.lang.reflect.Modifier;
import java.nio.file.Files;
import java.nio.file.Path;
import java.util.ArrayList;
import java.util.List;
import java.util.Set;
import java.util.TreeSet;
import java.util.regex.Matcher;
import java.util.regex.Pattern;

/** The public face of the document, and the rules of LANGUAGE.md that can be looked at from outside. */
public final class FaceTest {
  private static final Check C = new Check("FaceTest");
  private static final Path DOCUMENT = Path.of("../shared/DOC.md");
  private static final Path SOURCE = Path.of("src/main/java/DropPens.java");

  public static void main(String[] args) throws IOException {
    Set<String> due = documented();
    Set<String> is = declared();
    C.due("methods that the document has", due.size(), 53 - 1);
    for (String m : due) {
      C.due("face has " + m, is.contains(m), true);
    }
    for (String m : is) {
      C.due("document has " + m, due.contains(m), true);
    }
    members();
    source(Files.readString(SOURCE));
    C.end();
  }

  private static Set<String> documented() throws IOException {
    String face = Files.readString(DOCUMENT);
    face = face.substring(face.indexOf("```java"), face.indexOf("## Terms"));
    Set<String> all = new TreeSet<>();
    Matcher m = Pattern.compile("public (int|boolean|void) (\\w+)\\(([^)]*)\\)(?: throws ([\\w, ]+))?;").matcher(face);
    while (m.find()) {
      String types = m.group(3).replaceAll(" \\w+(,|$)", "$1").replace(" ", "");
      all.add(m.group(1) + " " + m.group(2) + "(" + types + ") " + (m.group(4) == null ? "" : m.group(4)));
    }
    return all;
  }

  private static Set<String> declared() {
    Set<String> all = new TreeSet<>();
    for (Method m : DropPens.class.getDeclaredMethods()) {
      if (Modifier.isPrivate(m.getModifiers())) {
        continue;
      }
      List<String> types = new ArrayList<>();
      for (Class<?> t : m.getParameterTypes()) {
        types.add(t.getName());
      }
      List<String> thrown = new ArrayList<>();
      for (Class<?> t : m.getExceptionTypes()) {
        thrown.add(t.getSimpleName());
      }
      String open = m.getModifiers() == Modifier.PUBLIC ? "" : Modifier.toString(m.getModifiers()) + " ";
      all.add(open + m.getReturnType() + " " + m.getName() + "(" + String.join(",", types) + ") "
          + String.join(", ", thrown));
    }
    return all;
  }

  /** Rules 1, 5, 11. */
  private static void members() {
    int publicFinal = Modifier.PUBLIC | Modifier.FINAL;
    C.due("public and final", DropPens.class.getModifiers(), publicFinal);
    for (Field f : DropPens.class.getDeclaredFields()) {
      boolean none = f.getName().equals("NONE") && f.getModifiers() == (publicFinal | Modifier.STATIC);
      C.due("field " + f.getName() + " is private", none || Modifier.isPrivate(f.getModifiers()), true);
    }
    Constructor<?>[] made = DropPens.class.getDeclaredConstructors();
    C.due("one constructor", made.length, 1);
    C.due("it is public", made[0].getModifiers(), Modifier.PUBLIC);
    C.due("without arguments", made[0].getParameterCount(), 0);
    Set<String> face = new TreeSet<>();
    for (Method m : DropPens.class.getDeclaredMethods()) {
      if (Modifier.isPublic(m.getModifiers())) {
        face.add(m.getName());
      }
    }
    Class<?>[] inside = DropPens.class.getDeclaredClasses();
    C.due("classes inside, twelve with the outer one", inside.length <= 11, true);
    for (Class<?> c : inside) {
      C.due(c.getSimpleName() + " is static", Modifier.isStatic(c.getModifiers()), true);
      C.due(c.getSimpleName() + " is not public", Modifier.isPublic(c.getModifiers()), false);
    }
    List<Class<?>> all = new ArrayList<>(List.of(inside));
    all.add(DropPens.class);
    for (Class<?> c : all) {
      int fields = 0;
      for (Field f : c.getDeclaredFields()) {
        boolean fixed = Modifier.isStatic(f.getModifiers());
        C.due("static field " + f.getName() + " is final", !fixed || Modifier.isFinal(f.getModifiers()), true);
        fields += fixed ? 0 : 1;
      }
      C.due(c.getSimpleName() + " has few fields", fields <= 20, true);
      for (Method m : c.getDeclaredMethods()) {
        C.due(m.getName() + " takes seven at most", m.getParameterCount() <= 7, true);
        boolean free = Modifier.isPublic(m.getModifiers()) || !face.contains(m.getName());
        C.due(m.getName() + " does not bear a public one's name", free, true);
      }
    }
  }

  /** Rules 2, 4, 6, 11: words that may not stand there, and methods that grow too long. */
  private static void source(String text) {
    String code = text.replaceAll("(?s)/\\*.*?\\*/", "").replaceAll("//[^\n]*", "");
    String[] barred = {
      "->", "::", "finally", "synchronized", "assert ", "catch", "try \\{", "Exact\\(", "Random", "currentTime",
      "nanoTime", "Thread", "hashCode", "toString", "package ", "static \\{", "MAX_VALUE", "MIN_VALUE", "String\\."
    };
    for (String word : barred) {
      C.due("no " + word, Pattern.compile(word).matcher(code).find(), false);
    }
    Matcher imports = Pattern.compile("import ([\\w.]+);").matcher(code);
    while (imports.find()) {
      String name = imports.group(1);
      C.due("import " + name, name.equals("java.util.Arrays") || name.equals("java.util.NoSuchElementException"), true);
    }
    Matcher calls = Pattern.compile("(Arrays|System|Math|Integer|Long)\\.(\\w+)").matcher(code);
    Set<String> listed = Set.of("fill", "arraycopy", "max", "min", "abs", "bitCount");
    while (calls.find()) {
      C.due("library " + calls.group(), listed.contains(calls.group(2)), true);
    }
    Matcher thrown = Pattern.compile("throw ([^;]*);").matcher(code);
    while (thrown.find()) {
      C.due("throw " + thrown.group(1), thrown.group(1).matches("new \\w+Exception\\((\"[^\"]*\")?\\)"), true);
    }
    C.due("signs 1 to 127", text.chars().allMatch(c -> c > 0 && c < 128), true);
    int start = 0;
    String[] lines = text.split("\n");
    for (int i = 0; i < lines.length; i++) {
      boolean outer = lines[i].matches(" {4}(public|private)?[^/]*\\).*\\{");
      boolean inner = lines[i].matches(" {8}\\w[^;=]*\\([^;]*\\) \\{") && !lines[i].matches(" *(for|if|while|switch).*");
      start = outer || inner ? i : start;
      boolean ends = lines[i].matches(" {4}(?: {4})?\\}");
      C.due("method at line " + (start + 1) + " is short", !ends || start == 0 || i - start <= 60 || isClass(lines, i),
          true);
    }
  }

  /** Whether the brace at a line closes a class. */
  private static boolean isClass(String[] lines, int end) {
    return lines[end].equals("    }") && lines[end - 1].equals("        }");
  }
}
