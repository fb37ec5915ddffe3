import java.util.Set;

/**
 * Plays lines of the form "name number .. = answer" on a new object. Beside the answers it looks,
 * call by call, at what the document says of all calls: what throws or asks changes nothing, what
 * is REFUSED is counted once and leaves rows and panes alone, all else of the first four sections
 * is one ACT. Each line is looked at on an object of its own that the lines ahead have led there,
 * so that the questions do not use up the calls that an object is made for.
 */
final class Script {
  private static final int CALLS_MOST = 512;
  private static final Set<String> NO_ACTS = Set.of("ofPane", "at", "peek", "total", "text",
      "whole", "row", "isKin", "sees", "would", "house", "knock", "isSound", "digest");

  private static int wrong = 0;

  private final String title;
  private final Manypanes x = new Manypanes();
  private int calls = 0;

  private Script(String title) {
    this.title = title;
  }

  static void play(String title, String... lines) {
    Script plain = new Script(title);
    for (String line : lines) {
      plain.compare(line);
    }
    for (int i = 0; i < lines.length; i++) {
      Script watched = new Script(title + " (watched)");
      for (int j = 0; j < i; j++) {
        watched.askLine(lines[j]);
      }
      watched.watch(lines[i]);
    }
  }

  static void end() {
    System.out.println(wrong == 0 ? "all answers are as due" : wrong + " faults");
    if (wrong != 0) {
      System.exit(1);
    }
  }

  static void fault(String what) {
    wrong++;
    System.out.println(what);
  }

  private void watch(String line) {
    String name = line.substring(0, line.indexOf(' '));
    String panes = panes();
    int acts = number("house", 0);
    int refusals = refusals();
    String digest = ask("digest");
    String answer = compare(line);
    boolean asks = NO_ACTS.contains(name);
    if (answer.startsWith("throws") || asks && !name.equals("knock")) {
      same(line, "the digest", digest, ask("digest"));
    } else if (name.equals("knock")) {
      same(line, "the panes", panes, panes());
      same(line, "the acts", acts, number("house", 0));
    } else if (answer.equals("-9")) {
      same(line, "the panes", panes, panes());
      same(line, "the acts", acts, number("house", 0));
      same(line, "the refusals", refusals + 1, refusals());
    } else {
      same(line, "the acts", acts + 1, number("house", 0));
    }
    same(line, "isSound", "true", ask("isSound"));
    if (calls > CALLS_MOST) {
      fault(title + ": more calls than an object is made for");
    }
  }

  private String compare(String line) {
    String answer = askLine(line);
    same(line, "the answer", line.substring(line.indexOf(" = ") + 3), answer);
    return answer;
  }

  private String askLine(String line) {
    String[] words = line.substring(0, line.indexOf(" = ")).split(" ");
    int[] numbers = new int[words.length - 1];
    for (int i = 0; i < numbers.length; i++) {
      numbers[i] = Integer.parseInt(words[i + 1]);
    }
    return ask(words[0], numbers);
  }

  private String panes() {
    StringBuilder all = new StringBuilder(ask("row"));
    for (int pane = 0; pane < 6; pane++) {
      all.append('/').append(ask("whole", pane)).append(ask("ofPane", pane, 5));
      all.append(ask("ofPane", pane, 7));
    }
    return all.toString();
  }

  private int refusals() {
    int sum = 0;
    for (int kind = 1; kind <= 5; kind++) {
      sum += number("house", kind);
    }
    return sum;
  }

  private int number(String name, int argument) {
    return Integer.parseInt(ask(name, argument));
  }

  private String ask(String name, int... numbers) {
    calls++;
    return Calls.call(x, name, numbers);
  }

  private void same(String line, String what, Object due, Object got) {
    if (!due.equals(got)) {
      fault(title + ": " + line + ": " + what + " is '" + got + "', due is '" + due + "'");
    }
  }
}
