import java.io.IOException;
import java.lang.reflect.Method;
import java.nio.file.Files;
import java.nio.file.Path;
import java.util.List;
import java.util.TreeMap;
import java.util.stream.Collectors;
import java.util.stream.Stream;

/** Every promise of the document has tests that are named for it and for the cases at its edges. */
public final class EdgeNamesTest {
  private static final Path DOCUMENT = Path.of("../shared/DOC.md");
  private static final Path TESTS = Path.of("src/test/java");

  public static void main(String[] args) throws IOException, ClassNotFoundException {
    Check c = new Check("EdgeNamesTest");
    TreeMap<Integer, Integer> many = new TreeMap<>();
    for (String name : classes()) {
      for (Method m : Edges.named(Class.forName(name))) {
        many.merge(Integer.parseInt(m.getName().substring(1, 3)), 1, Integer::sum);
      }
    }
    long promises = Files.readAllLines(DOCUMENT).stream().filter(l -> l.startsWith("## Promise ")).count();
    c.due("promises", promises, 53);
    for (int promise = 1; promise <= promises; promise++) {
      c.due("promise " + promise + " has tests", many.getOrDefault(promise, 0) > 0, true);
    }
    c.due("none is named for another", many.firstKey() == 1 && many.lastKey() == promises, true);
    c.end();
  }

  private static List<String> classes() throws IOException {
    try (Stream<Path> files = Files.list(TESTS)) {
      return files.map(f -> f.getFileName().toString()).filter(f -> f.endsWith("EdgesTest.java"))
          .map(f -> f.replace(".java", "")).sorted().collect(Collectors.toList());
    }
  }
}
