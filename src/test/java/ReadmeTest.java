import java.io.IOException;
import java.nio.file.Files;
import java.nio.file.Path;
import java.util.regex.Matcher;
import java.util.regex.Pattern;

/** The calls in README.md's example answer what is told behind them, and the tests it names are those there are. */
public final class ReadmeTest {
  private static final Lines LINES = new Lines("ReadmeTest");
  private static final Pattern TEXT = Pattern.compile("tell\\(x, \"([^\"]*)\"\\);.*");
  private static final Pattern CALL = Pattern.compile("x\\.(\\w+\\([-0-9, ]*\\)); +// (-?[0-9]+|true|false)\\b.*");

  public static void main(String[] args) throws IOException {
    String readme = Files.readString(Path.of("README.md"));
    example(readme);
    tests(readme);
    LINES.end();
  }

  private static void example(String readme) {
    String begin = "DownTheGutter x = new DownTheGutter();\n";
    int from = readme.indexOf(begin);
    int to = readme.indexOf("```", Math.max(0, from));
    if (from < 0 || to < 0) {
      LINES.fault("README.md has no example");
      return;
    }
    StringBuilder lines = new StringBuilder();
    for (String line : readme.substring(from + begin.length(), to).split("\n")) {
      Matcher text = TEXT.matcher(line);
      Matcher call = CALL.matcher(line);
      if (text.matches()) {
        lines.append("text ").append(text.group(1)).append('\n');
      } else if (call.matches()) {
        String due = call.group(2).replace("true", "1").replace("false", "0");
        lines.append(call.group(1)).append(" = ").append(due).append('\n');
      } else {
        LINES.fault("README.md: no call with an answer: " + line);
      }
    }
    LINES.check("README.md", lines.toString());
  }

  private static void tests(String readme) throws IOException {
    try (var files = Files.list(Path.of("src/test/java"))) {
      for (Path file : files.toList()) {
        String name = file.getFileName().toString().replace(".java", "");
        if (!readme.contains("- `" + name + "`:")) {
          LINES.fault("README.md does not tell of " + name);
        }
      }
    }
  }
}
