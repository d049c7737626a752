import java.io.IOException;
import java.lang.reflect.Method;
import java.lang.reflect.Modifier;
import java.nio.file.Files;
import java.nio.file.Path;

/** README.md: its example answers what it says, and it tells every call. Runs in the project's folder. */
public final class ReadmeTest extends Checks {
  private static void example() {
    StrideViews x = new StrideViews();
    int row = x.store(2, 12);
    int table = x.shape(row, 3, 4, StrideViews.NONE);
    int turned = x.turn(table, 0, 1);
    due(0, x.put(table, 1, 7));
    due(7, x.at(turned, 3));
    int back = x.slice(row, 0, 11, -1, 12);
    due(2, x.copy(row, back));
    due(7, x.at(row, 10));
    int sums = x.fold(0, table, 1);
    due(7, x.at(sums, 2));
    int first = x.pick(table, 1, 0);
    int wide = x.spread(sums, 1, 4);
    due(4, x.act(1, wide, table, table));
    due(3, x.runs(first));
    items(x, sums, 0, 0, 7);
  }

  // Each line of the example stands in this file too, with the answer that its remark begins with.
  private static void exampleIsTested() {
    String source = text("src/test/java/ReadmeTest.java");
    String readme = text("README.md");
    int from = readme.indexOf("```java\n") + "```java\n".length();
    String[] lines = readme.substring(from, readme.indexOf("```", from)).split("\n");
    due(true, lines.length > 10);
    for (String line : lines) {
      String[] parts = line.split(";\\s*(// )?", 2);
      String answer = parts[1].split("[: ]", 2)[0];
      boolean makes = parts[0].contains(" = ");
      dueIn(source, makes ? "    " + parts[0] + ";\n" : "    due(" + answer + ", " + parts[0] + ");\n");
    }
  }

  private static void everyCall() {
    String readme = text("README.md");
    for (Method method : StrideViews.class.getDeclaredMethods()) {
      if (Modifier.isPublic(method.getModifiers())) dueIn(readme, "| `" + method.getName() + "(");
    }
  }

  private static void dueIn(String text, String part) {
    due(true, text.contains(part));
    if (!text.contains(part)) System.out.println("missing: " + part);
  }

  private static String text(String file) {
    try {
      return Files.readString(Path.of(file));
    } catch (IOException e) {
      throw new IllegalStateException(e);
    }
  }

  public static void main(String[] args) {
    sentence("README.md", "the example answers what it says", ReadmeTest::example);
    sentence("README.md", "the example is tested", ReadmeTest::exampleIsTested);
    sentence("README.md", "every call of the face is told", ReadmeTest::everyCall);
    end();
  }
}
