/**
 * PANE 4 over no place (CAPACITY 0), in each way that it comes about, and what each promise makes
 * of that. Where the ROW has places there, none of them may be told or written.
 */
public final class NoPlaceTest {
  private static final String[][] WAYS = {
    {"0", "0", "fill 0 1 1 16 = 16", "clear 0 = 16", "fresh 4 0 = 0"},
    {"0", "1", "fill 0 1 1 16 = 16", "clear 0 = 16", "part 4 0 0 0 = 0"},
    {"5", "1", "fill 0 1 1 16 = 16", "clear 0 = 16", "part 4 0 5 0 = 0"},
    {"16", "1", "fill 0 1 1 16 = 16", "clear 0 = 16", "part 4 0 16 0 = 0"},
    {"16", "1", "fill 0 1 1 16 = 16", "rest 4 0 = 0", "clear 0 = 16"},
    {"9", "1", "fill 0 1 1 16 = 16", "end 0 9 = 16", "rest 4 0 = 0", "clear 0 = 16"},
    {"5", "1", "fill 0 1 1 16 = 16", "clear 0 = 16", "part 4 0 5 0 = 0", "rest 4 4 = 0"},
    {"5", "1", "fill 0 1 1 16 = 16", "clear 0 = 16", "part 3 0 5 0 = 0", "twin 4 3 = 0"},
    {"5", "1", "fill 0 1 1 16 = 16", "clear 0 = 16", "part 5 0 5 0 = 0", "exchange 4 5 = 0"}};
  private static final String ROW = "row  = 1 2 3 4 5 6 7 8 9 10 11 12 13 14 15 16";
  private static final String FRONT = "whole 0 = >1 2 3 4 5 6 7 8 9 10 11 12 13 14 15 16 <";

  public static void main(String[] args) {
    for (String[] way : WAYS) {
      String[] ahead = java.util.Arrays.copyOfRange(way, 2, way.length);
      asked(ahead, way[0], way[1]);
      moved(ahead);
      written(ahead);
      taken(ahead);
      made(ahead, way[0]);
      reader(ahead);
    }
    Script.end();
  }

  private static void asked(String[] ahead, String start, String kin) {
    Script.playBehind("no place: 29 to 34, asked", ahead, "ofPane 4 0 = 0", "ofPane 4 1 = 0",
        "ofPane 4 2 = 0", "ofPane 4 3 = 0", "ofPane 4 4 = -1", "ofPane 4 5 = " + start,
        "ofPane 4 6 = 0", "ofPane 4 7 = 0", "ofPane 4 8 = 1", "ofPane 4 9 = 0", "at 4 0 = -9",
        "at 4 -1 = -9", "at 4 1 = -9", "peek 4 = -9", "total 4 = 0", "text 4 = ", "whole 4 = ><");
    Script.playBehind("no place: 36 to 38, asked", ahead, "isKin 4 4 = 1", "isKin 4 0 = " + kin,
        "isKin 0 4 = " + kin, "sees 4 0 4 = -1", "sees 4 0 0 = -1", "sees 4 -1 0 = -1",
        "sees 0 0 4 = -1", "sees 0 " + start + " 4 = -1", "sees 0 15 4 = -1", "would 4 0 = 0",
        "would 4 1 = 0", "would 4 2 = 0", "would 4 3 = -9", "isSound  = true");
  }

  private static void moved(String[] ahead) {
    Script.playBehind("no place: 9 to 12, moved", ahead, "go 4 0 = 0", "go 4 1 = -9 BEYOND",
        "go 4 -1 = -9 BEYOND", "move 4 0 = 0", "move 4 1 = -9 BEYOND", "move 4 -1 = -9 BEYOND",
        "end 4 0 = 0", "end 4 1 = -9 BEYOND", "end 4 -1 = -9 BEYOND", "stretch 4 0 = 0",
        "stretch 4 1 = -9 BEYOND", "stretch 4 -1 = -9 BEYOND", "whole 4 = ><");
    Script.playBehind("no place: 13 to 17, moved", ahead, "back 4 = -9 NO MARK", "mark 4 = 0",
        "whole 4 = |><", "ofPane 4 4 = 0", "would 4 3 = 0", "back 4 = 0", "go 4 0 = 0",
        "move 4 0 = 0", "end 4 0 = 0", "stretch 4 0 = 0", "ofPane 4 4 = 0", "clear 4 = 0",
        "ofPane 4 4 = -1", "mark 4 = 0", "flip 4 = 0", "ofPane 4 4 = -1", "mark 4 = 0",
        "rewind 4 = 0", "ofPane 4 4 = -1", "house 8 = 0", "whole 4 = ><");
  }

  private static void written(String[] ahead) {
    Script.playBehind("no place: 18 to 22 and 25, written", ahead, "put 4 99 = -9 FULL",
        "putAt 4 0 99 = -9 BEYOND", "putAt 4 -1 99 = -9 BEYOND", "bring 4 0 0 0 = -9 BEYOND",
        "bring 0 0 4 0 = -9 BEYOND", "bring 4 0 4 0 = -9 BEYOND", "fill 4 99 1 0 = 0",
        "fill 4 99 1 1 = 0 FULL", "fill 4 99 1 20 = 0 FULL", "reach 4 0 99 = -9 BEYOND",
        "reach 4 -1 99 = -9 BEYOND", "reach 4 1 99 = -9 BEYOND", "mark 4 = 0", "pack 4 = 0",
        "ofPane 4 4 = -1", "whole 4 = ><", ROW, "total 5 = 0");
    Script.playBehind("no place: 23 pour", ahead, "pour 4 0 0 = 0", "pour 4 0 20 = 0",
        "pour 4 4 1 = 0", "pour 0 4 0 = 0", "pour 0 4 1 = 0 FULL", "pour 0 4 20 = 0 FULL", FRONT,
        "house 2 = 0", ROW);
  }

  private static void taken(String[] ahead) {
    Script.playBehind("no place: 26 to 28, taken", ahead, "get 4 = -9 EMPTY", "drain 4 0 = 0",
        "drain 4 1 = 0 EMPTY", "drain 4 20 = 0 EMPTY", "pop 4 = -9 BEYOND", "mark 4 = 0",
        "pop 4 = -9 BEYOND", "back 4 = 0", ROW);
  }

  private static void made(String[] ahead, String start) {
    Script.playBehind("no place: 4 to 8, made", ahead, "twin 3 4 = 0", "ofPane 3 5 = " + start,
        "rest 3 4 = 0", "ofPane 3 5 = " + start, "part 3 4 0 0 = 0", "ofPane 3 5 = " + start,
        "part 3 4 0 1 = -9 BEYOND", "part 3 4 1 0 = -9 BEYOND", "part 3 4 -1 0 = -9 BEYOND",
        "part 3 4 -1 1 = -9 BEYOND", "isKin 3 4 = 1", "sees 3 0 4 = -1", "exchange 3 4 = 0",
        "rest 4 4 = 0", "part 4 4 0 0 = 0", "ofPane 4 5 = " + start, "clear 4 = 0");
    Script.playBehind("no place: 2 and 3, made", ahead, "wrap 4 16 0 = 16", "ofPane 4 2 = 16",
        "fresh 4 0 = 0", "fresh 4 1 = 1", "put 4 5 = 1", "put 4 6 = -9 FULL", ROW);
  }

  private static void reader(String[] ahead) {
    Script.playBehind("no place: 7, a READER, and the KIND named first", ahead, "reader 4 4 = 0",
        "ofPane 4 5 = -9", "ofPane 4 7 = 1", "put 4 99 = -9 READER", "putAt 4 0 99 = -9 BEYOND",
        "bring 4 0 0 0 = -9 BEYOND", "fill 4 99 1 0 = 0", "fill 4 99 1 1 = 0 READER",
        "pack 4 = -9 READER", "pour 0 4 1 = 0 READER", FRONT, "pour 4 0 1 = 0", "pour 4 4 1 = 0",
        "reach 4 0 99 = -9 READER", "get 4 = -9 EMPTY", "isKin 4 0 = -9", "sees 4 0 4 = -9",
        "rest 3 4 = 0", "ofPane 3 7 = 1", "part 3 4 0 0 = 0", "ofPane 3 7 = 1", "house 7 = 2", ROW);
  }
}
