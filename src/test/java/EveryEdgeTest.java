import java.util.Arrays;

/**
 * Each call of the face with every mixture of numbers round its boundaries, in states that have
 * their own boundaries, is held against BufferModel: its answer, and all that is told behind it.
 */
public final class EveryEdgeTest {
  private static final int MIN = Integer.MIN_VALUE;
  private static final int MAX = Integer.MAX_VALUE;

  private static final String[][] STATES = {
    {},
    {"fill 0 1 1 16", "clear 0", "part 4 0 4 6", "end 4 5", "go 4 1", "mark 4", "go 4 2",
        "rest 1 0", "go 1 3", "reader 2 4", "end 5 0", "fresh 3 3"},
    {"fill 0 7 1 16", "fill 4 50 1 8", "mark 4", "reader 5 0", "end 0 9", "go 0 9", "rest 1 0",
        "fresh 2 0", "mark 2", "part 3 5 15 1"},
    {"fill 4 1 1 8", "go 4 3", "mark 4", "end 4 6", "twin 0 4", "part 1 4 3 3", "reader 2 1",
        "reader 3 4", "go 3 6", "rest 5 4", "go 5 1"}};

  /** A call's name, and a sign for each of its numbers (see numbersOf()). */
  private static final String[] CALLED = {
    "wrap plm", "fresh pl", "twin pp", "rest pp", "part qqii", "reader pp", "exchange pp", "go pl",
    "move pb", "end pl", "stretch pb", "mark p", "back p", "clear p", "flip p", "rewind p",
    "put pv", "putAt plv", "bring qiqi", "fill pffm", "pack p", "pour ppm", "lay lv", "reach plv",
    "get p", "drain pm", "pop p", "ofPane pw", "at pl", "peek p", "total p", "text p", "whole p",
    "row ", "isKin pp", "sees plp", "would pw", "house w", "knock ", "isSound ", "digest "};

  public static void main(String[] args) {
    for (String[] state : STATES) {
      for (String called : CALLED) {
        int space = called.indexOf(' ');
        String signs = called.substring(space + 1);
        mix(state, called.substring(0, space), signs, new int[signs.length()], 0);
      }
    }
    Script.end();
  }

  private static void mix(String[] state, String name, String signs, int[] numbers, int next) {
    if (next == signs.length()) {
      hold(state, name, numbers);
      return;
    }
    for (int number : numbersOf(signs.charAt(next))) {
      numbers[next] = number;
      mix(state, name, signs, numbers, next + 1);
    }
  }

  private static int[] numbersOf(char sign) {
    switch (sign) {
      case 'p':
        return new int[] {MIN, -1, 0, 1, 2, 3, 4, 5, 6, MAX};
      case 'q':
        return new int[] {-1, 0, 1, 2, 4, 5, 6};
      case 'l':
        return new int[] {MIN, MIN + 1, -4, -1, 0, 1, 2, 3, 4, 5, 6, 7, 8, 9, 10, 11, 12, 13, 14,
            15, 16, 17, MAX - 1, MAX};
      case 'i':
        return new int[] {MIN, -4, -1, 0, 1, 2, 3, 5, 6, 8, 15, 16, MAX};
      case 'b':
        return new int[] {MIN, -21, -20, -16, -8, -6, -5, -4, -3, -2, -1, 0, 1, 2, 3, 4, 5, 6, 7, 8,
            9, 16, 17, 20, 21, MAX};
      case 'm':
        return new int[] {MIN, -1, 0, 1, 2, 3, 4, 6, 8, 9, 16, 17, 20, 21, MAX};
      case 'v':
        return new int[] {MIN, -1, 0, 1, MAX};
      case 'f':
        return new int[] {MIN, -1, 0, 1, 1000000, 1000001, MAX};
      default:
        return new int[] {MIN, -1, 0, 1, 2, 3, 4, 5, 6, 7, 8, 9, 10, MAX};
    }
  }

  private static void hold(String[] state, String name, int[] numbers) {
    Manypanes x = new Manypanes();
    BufferModel model = new BufferModel();
    for (String call : state) {
      Calls.tell(x, call);
      Calls.tell(model, call);
    }
    String due = Calls.call(model, name, numbers) + "; " + model.digest() + " " + kin(model);
    String got = Calls.call(x, name, numbers) + "; " + x.digest() + " " + kin(x);
    if (!due.equals(got)) {
      Script.fault(String.join(", ", state) + ", " + name + Arrays.toString(numbers)
          + " told '" + got + "', due is '" + due + "'");
    }
  }

  /** Of those that digest() leaves out, enough to tell which ROW each PANE lies over. */
  private static String kin(Object on) {
    StringBuilder told = new StringBuilder();
    for (int pane = 0; pane < 6; pane++) {
      told.append(Calls.call(on, "isKin", pane, (pane + 2) % 6)).append(' ');
      told.append(Calls.call(on, "isKin", pane, (pane + 3) % 6)).append(' ');
    }
    return told.toString();
  }
}
