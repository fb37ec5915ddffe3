import java.io.IOException;
import java.nio.file.Files;
import java.nio.file.Path;
import java.util.regex.Matcher;
import java.util.regex.Pattern;

/** The example of README.md, line by line, on one new object. */
public final class ReadmeTest {
  private static final Pattern LINE =
      Pattern.compile("^x\\.(\\w+)\\((.*?)\\); +// (\"[^\"]*\"|throws \\w+|-?\\d+)(:.*)?$");
  private static final int LINES_LEAST = 15;

  public static void main(String[] args) throws IOException {
    Manypanes x = new Manypanes();
    int lines = 0;
    for (String line : Files.readAllLines(Path.of("README.md"))) {
      if (line.startsWith("x.")) {
        lines++;
        hold(x, line);
      }
    }
    if (lines < LINES_LEAST) {
      Script.fault("only " + lines + " lines of the example were found");
    }
    Script.end();
  }

  private static void hold(Manypanes x, String line) {
    Matcher found = LINE.matcher(line);
    if (!found.matches()) {
      Script.fault("not to be read: " + line);
      return;
    }
    String got = Calls.tell(x, found.group(1) + " " + found.group(2).replace(",", ""));
    if (!got.equals(found.group(3).replace("\"", ""))) {
      Script.fault(line + " answered '" + got + "'");
    }
  }
}
