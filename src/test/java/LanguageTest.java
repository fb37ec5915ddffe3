import java.io.IOException;
import java.nio.file.Files;
import java.nio.file.Path;
import java.util.regex.Matcher;
import java.util.regex.Pattern;

/**
 * Looks through the program for what ../shared/LANGUAGE.md rules out and this program does without.
 * Some of it would be let there with care (a catch, an import): who needs it takes it off the list.
 */
public final class LanguageTest {
  private static final String[] RULED_OUT = {
    "^package ", "^import ", "->", "::", "\\bcatch\\b", "\\bfinally\\b", "\\bsynchronized\\b",
    "\\bassert\\b", "\\bnative\\b", "\\bvolatile\\b", "\\binstanceof\\b", "\\bdouble\\b",
    "\\bfloat\\b", "\\bObject\\b", "\\bSystem\\b", "\\bThread\\b", "\\w+Exact\\b", "\\bvar\\b",
    "\\.(equals|hashCode|format|valueOf|getClass|clone)\\(", "\\bstatic \\{",
    "\"[^\"]*\" \\+|\\+ \"", "\\bstatic (?!final )[\\w\\[\\]]+ \\w+ *[=;]", "[^\\x00-\\x7f]"};
  private static final int LINES_MOST = 60;
  private static final int PARAMETERS_MOST = 7;

  public static void main(String[] args) throws IOException {
    String program = Files.readString(Path.of("src/main/java/Manypanes.java"));
    String code = program.replaceAll("(?s)/\\*.*?\\*/", "").replaceAll("//[^\n]*", "");
    for (String pattern : RULED_OUT) {
      Matcher found = Pattern.compile(pattern, Pattern.MULTILINE).matcher(code);
      if (found.find()) {
        Script.fault("ruled out: " + found.group());
      }
    }
    lookAtThrows(code);
    lookAtMethods(code);
    Script.end();
  }

  private static void lookAtThrows(String code) {
    Matcher thrown = Pattern.compile("throw new (\\w+)").matcher(code);
    while (thrown.find()) {
      String name = thrown.group(1);
      if (!name.equals("IndexOutOfBoundsException") && !name.equals("IllegalArgumentException")) {
        Script.fault("thrown: " + name);
      }
    }
  }

  private static void lookAtMethods(String code) {
    Matcher methods = Pattern.compile("\n( {2,4})(?:public |private )?(?:static )?(?:final )?"
        + "[\\w\\[\\]]* ?(\\w+)\\(([^)]*)\\)[^;{}]*\\{\n(.*?)\n\\1\\}", Pattern.DOTALL)
        .matcher(code);
    int count = 0;
    while (methods.find()) {
      count++;
      if (methods.group(4).split("\n").length > LINES_MOST) {
        Script.fault("too long: " + methods.group(2));
      }
      if (methods.group(3).split(",").length > PARAMETERS_MOST) {
        Script.fault("too many parameters: " + methods.group(2));
      }
    }
    if (count < 42) {
      Script.fault("only " + count + " methods were found in the program's text");
    }
  }
}
