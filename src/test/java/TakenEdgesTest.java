/** Promises 26 to 28, sentence by sentence, at the boundaries that WrittenTest leaves open. */
public final class TakenEdgesTest {
  private static final String NOT_SO = " = throws IllegalArgumentException";
  private static final String AS_BEFORE = "whole 4 = 5 |6 >7 8 9 <10 ";
  private static final String AT_LIMIT = "whole 4 = 5 |6 7 8 9 ><10 ";
  private static final String ROW_AS_BEFORE = "row  = 1 2 3 4 5 6 7 8 9 10 11 12 13 14 15 16";

  public static void main(String[] args) {
    promise26();
    promise27();
    promise28();
    Script.end();
  }

  private static void promise26() {
    Script.playBehind("26 get: the last place below LIMIT, not the one at LIMIT", Script.PART,
        "get 4 = 7", "get 4 = 8", "get 4 = 9", "get 4 = -9 EMPTY", AT_LIMIT, "get 4 = -9 EMPTY",
        "house 2 = 2", "stretch 4 1 = 6", "get 4 = 10", "get 4 = -9 EMPTY", "back 4 = 5",
        "get 4 = 6", ROW_AS_BEFORE);
    Script.play("26 get: LIMIT 0, LIMIT is CAPACITY", "lay 0 5 = 0", "end 0 0 = 16",
        "get 0 = -9 EMPTY", "clear 0 = 16", "get 0 = 5", "go 0 15 = 1", "get 0 = 0",
        "get 0 = -9 EMPTY");
    Script.play("26 get: the least and the greatest VALUE", "putAt 4 1 2147483647 = 0",
        "get 4 = 0", "get 4 = 2147483647");
    Script.playBehind("26 get: of a READER", Script.PART, "reader 4 4 = 3", "go 4 4 = 2",
        "get 4 = 9", "get 4 = -9 EMPTY", "house 4 = 0", "back 4 = 4");
  }

  private static void promise27() {
    Script.playBehind("27 drain: 0, as many as LEFT, one more", Script.PART, "drain 4 0 = 0",
        AS_BEFORE, "drain 4 3 = 3", AT_LIMIT, "drain 4 0 = 0", "drain 4 1 = 0 EMPTY", "go 4 2 = 5",
        "drain 4 4 = 3 EMPTY", "go 4 2 = 5", "drain 4 2 = 2", "ofPane 4 0 = 4",
        "drain 4 20 = 1 EMPTY", "house 2 = 3", "back 4 = 4", ROW_AS_BEFORE);
    for (String many : new String[] {"-1", "21", "-2147483648", "2147483647"}) {
      Script.playBehind("27 drain: many is 0 to 20", Script.PART, "drain 4 " + many + NOT_SO,
          AS_BEFORE, "go 4 5 = 2", "drain 4 " + many + NOT_SO, "house 2 = 0", AT_LIMIT);
    }
    Script.play("27 drain: all there is, nothing there is", "drain 0 16 = 16",
        "drain 0 20 = 0 EMPTY", "clear 0 = 16", "drain 0 17 = 16 EMPTY", "end 0 0 = 16",
        "drain 0 1 = 0 EMPTY", "drain 0 0 = 0", "clear 0 = 16", "drain 0 15 = 15", "drain 0 1 = 1");
    Script.playBehind("27 drain: of a READER", Script.PART, "reader 4 4 = 3",
        "drain 4 20 = 3 EMPTY", "house 4 = 0", AT_LIMIT);
  }

  private static void promise28() {
    Script.playBehind("28 pop: above MARK, to MARK, below it, to 0, and no more", Script.PART,
        "pop 4 = 6", "ofPane 4 4 = 1", "pop 4 = 5", "ofPane 4 4 = -1", "ofPane 4 0 = 0",
        "pop 4 = -9 BEYOND", "pop 4 = -9 BEYOND", "ofPane 4 0 = 0", "house 5 = 2", "go 4 1 = 0",
        "pop 4 = 5", ROW_AS_BEFORE);
    Script.playBehind("28 pop: from LIMIT, from CAPACITY", Script.PART, "go 4 5 = 2", "pop 4 = 9",
        "end 4 6 = 5", "go 4 6 = 4", "pop 4 = 10", "ofPane 4 1 = 6", "back 4 = 4");
    Script.playBehind("28 pop: refused, a MARK at 0 and START above 0", Script.PART, "rewind 4 = 5",
        "mark 4 = 0", "pop 4 = -9 BEYOND", "whole 4 = |>5 6 7 8 9 <10 ", "back 4 = 0");
    Script.play("28 pop: LIMIT 0, LIMIT 1", "end 0 0 = 16", "pop 0 = -9 BEYOND", "end 0 1 = 0",
        "pop 0 = -9 BEYOND", "go 0 1 = 0", "pop 0 = 0", "house 5 = 2", "house 2 = 0");
    Script.playBehind("28 pop: of a READER", Script.PART, "reader 4 4 = 3", "pop 4 = 6",
        "pop 4 = 5", "pop 4 = -9 BEYOND", "house 4 = 0");
  }
}
