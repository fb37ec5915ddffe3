/** Long runs of calls, drawn by a rule that is always the same, are held against BufferModel. */
public final class ModelTest {
  private static final int RUNS = 600;
  private static final int CALLS = 512;
  /** A call's name, and a sign for each of its numbers (see drawn()). */
  private static final String[] CALLED = {
    "wrap pii", "fresh pi", "twin pp", "rest pp", "part ppii", "reader pp", "exchange pp",
    "go pi", "move pb", "end pi", "stretch pb", "mark p", "back p", "clear p", "flip p",
    "rewind p", "put pv", "putAt piv", "bring pipi", "fill pffm", "pack p", "pour ppm", "lay iv",
    "reach piv", "get p", "drain pm", "pop p", "ofPane pw", "at pi", "peek p", "total p",
    "text p", "whole p", "row ", "isKin pp", "sees pip", "would pw", "house w", "knock ",
    "isSound ", "digest "};

  private long seed;

  private ModelTest(long seed) {
    this.seed = seed;
  }

  public static void main(String[] args) {
    for (int run = 0; run < RUNS; run++) {
      new ModelTest(run).play(run);
    }
    Script.end();
  }

  private void play(int run) {
    Manypanes x = new Manypanes();
    BufferModel model = new BufferModel();
    for (int call = 0; call < CALLS; call++) {
      // Every fourth call asks for the whole state, so that a fault is told near its cause.
      String[] words = (call % 4 == 3 ? "digest " : CALLED[below(CALLED.length)]).split(" ", 2);
      int[] numbers = new int[words[1].length()];
      for (int i = 0; i < numbers.length; i++) {
        numbers[i] = drawn(words[1].charAt(i));
      }
      String due = Calls.call(model, words[0], numbers);
      String got = Calls.call(x, words[0], numbers);
      if (!due.equals(got)) {
        Script.fault("run " + run + ", call " + call + ": " + words[0]
            + java.util.Arrays.toString(numbers) + " answered '" + got + "', due is '" + due + "'");
        return;
      }
    }
  }

  private int drawn(char kind) {
    if (below(60) == 0) {
      int[] edges = {Integer.MIN_VALUE, -1, 6, 21, 1000001, Integer.MAX_VALUE};
      return edges[below(edges.length)];
    }
    switch (kind) {
      case 'p':
        return below(6);
      case 'i':
        return below(8) == 0 ? below(20) - 2 : below(9);
      case 'b':
        return below(8) == 0 ? below(44) - 22 : below(9) - 4;
      case 'm':
        return below(8) == 0 ? below(22) : below(6);
      case 'v':
        return below(8) == 0 ? Integer.MAX_VALUE - below(3) : below(100);
      case 'f':
        return below(8) == 0 ? 1000000 - below(2) : below(50);
      default:
        return below(11);
    }
  }

  private int below(int bound) {
    seed = seed * 6364136223846793005L + 1442695040888963407L;
    return (int) ((seed >>> 33) % bound);
  }
}
