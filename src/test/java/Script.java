import java.util.Arrays;
import java.util.List;
import java.util.Set;

/**
 * Plays lines of the form "name number .. = answer" on a new object, and "name number .. = answer
 * KIND" where that KIND is due to be counted once by the call. Beside the answers it looks, call by
 * call, at what the document says of all calls: what throws, asks or is REFUSED leaves rows and
 * panes as they are; all else of the first four sections is one ACT; no other count moves. Each
 * line is looked at on an object of its own that the lines ahead have led there, so that the
 * questions do not use up the calls that an object is made for.
 */
final class Script {
  /**
   * PANE 4 shows the places 4 to 9 of the LONG ROW, whose VALUES are 1 to 16; its MARK is 1, its
   * POSITION 2, its LIMIT 5: "5 |6 >7 8 9 <10 ".
   */
  static final String[] PART = {"fill 0 1 1 16 = 16", "clear 0 = 16", "part 4 0 4 6 = 6",
      "end 4 5 = 6", "go 4 1 = 0", "mark 4 = 1", "go 4 2 = 1"};

  private static final int CALLS_MOST = 512;
  private static final int PANES = 6;
  private static final Set<String> NO_ACTS = Set.of("ofPane", "at", "peek", "total", "text",
      "whole", "row", "isKin", "sees", "would", "house", "knock", "isSound", "digest");
  /** At the place of its number in house(). */
  private static final List<String> KINDS =
      List.of("no kind", "FULL", "EMPTY", "NO MARK", "READER", "BEYOND");

  private static int wrong = 0;

  private final String title;
  private final Manypanes x = new Manypanes();
  private int calls = 0;

  private record Line(String told, String call, String due, int kind) {
    static Line of(String told) {
      int kind = 0;
      for (int i = 1; i < KINDS.size(); i++) {
        kind = told.endsWith(" " + KINDS.get(i)) ? i : kind;
      }
      int equal = told.indexOf(" = ");
      int end = kind == 0 ? told.length() : told.length() - KINDS.get(kind).length() - 1;
      return new Line(told, told.substring(0, equal), told.substring(equal + 3, end), kind);
    }

    String name() {
      return call.substring(0, (call + " ").indexOf(' '));
    }

    boolean asks() {
      return NO_ACTS.contains(name());
    }

    boolean refused() {
      return !asks() && due.equals("-9");
    }

    boolean thrown() {
      return due.startsWith("throws");
    }
  }

  private Script(String title) {
    this.title = title;
  }

  static void play(String title, String... told) {
    Line[] lines = Arrays.stream(told).map(Line::of).toArray(Line[]::new);
    Script plain = new Script(title);
    for (Line line : lines) {
      plain.compare(line);
    }
    for (int i = 0; i < lines.length; i++) {
      Script watched = new Script(title + " (watched)");
      for (int j = 0; j < i; j++) {
        watched.askLine(lines[j]);
      }
      watched.watch(lines[i]);
    }
  }

  static void playBehind(String title, String[] ahead, String... told) {
    String[] all = Arrays.copyOf(ahead, ahead.length + told.length);
    System.arraycopy(told, 0, all, ahead.length, told.length);
    play(title, all);
  }

  /** Many plays that begin with the same lines, each with one line more. */
  static void playEach(String title, String[] ahead, String... last) {
    for (String line : last) {
      playBehind(title, ahead, line);
    }
  }

  static void end() {
    System.out.println(wrong == 0 ? "all answers are as due" : wrong + " faults");
    if (wrong != 0) {
      System.exit(1);
    }
  }

  static void fault(String what) {
    wrong++;
    System.out.println(what);
  }

  private void watch(Line line) {
    String state = state();
    int[] due = counts();
    compare(line);
    if (line.refused() && line.kind == 0) {
      fault(title + ": " + line.told + ": no KIND is told");
    }
    if (line.refused() || line.thrown() || line.asks()) {
      same(line, "the state", state, state());
    } else {
      due[0]++;
    }
    if (line.kind != 0) {
      due[line.kind]++;
    }
    if (line.name().equals("knock")) {
      due[6]++;
    }
    same(line, "house() of 0 to 6", Arrays.toString(due), Arrays.toString(counts()));
    same(line, "isSound", "true", ask("isSound"));
    if (calls > CALLS_MOST) {
      fault(title + ": more calls than an object is made for");
    }
  }

  private void compare(Line line) {
    same(line, "the answer", line.due, askLine(line));
  }

  private String askLine(Line line) {
    calls++;
    return Calls.tell(x, line.call);
  }

  /** All that can be asked of rows and panes, and is not told by these answers already. */
  private String state() {
    StringBuilder all = new StringBuilder(ask("row"));
    for (int pane = 0; pane < PANES; pane++) {
      all.append("; ").append(ask("whole", pane));
      for (int what = 0; what <= 9; what++) {
        all.append(' ').append(ask("ofPane", pane, what));
      }
      for (int other = 0; other < PANES; other++) {
        all.append(' ').append(ask("isKin", pane, other));
        all.append(' ').append(ask("sees", pane, 0, other));
      }
    }
    return all.toString();
  }

  private int[] counts() {
    int[] counts = new int[7];
    for (int what = 0; what < counts.length; what++) {
      counts[what] = Integer.parseInt(ask("house", what));
    }
    return counts;
  }

  private String ask(String name, int... numbers) {
    calls++;
    return Calls.call(x, name, numbers);
  }

  private void same(Line line, String what, Object due, Object got) {
    if (!due.equals(got)) {
      fault(title + ": " + line.told + ": " + what + " is '" + got + "', due is '" + due + "'");
    }
  }
}
