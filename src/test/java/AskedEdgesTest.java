/** Promises 29 to 42, sentence by sentence, at the boundaries that AskedTest leaves open. */
public final class AskedEdgesTest {
  private static final String NOT_SO = " = throws IllegalArgumentException";
  private static final String[] FAR_OFF = {"-2147483648", "-2147483647", "2147483646",
      "2147483647"};

  public static void main(String[] args) {
    promise29();
    promise30();
    promise31();
    promise32();
    promise33();
    promise34();
    promise35();
    promise36();
    promise37Index();
    promise37();
    promise38();
    promise39();
    promise40();
    promise41();
    promise42();
    Script.end();
  }

  private static void promise29() {
    Script.playBehind("29 ofPane: each number", Script.PART, "ofPane 4 0 = 2", "ofPane 4 1 = 5",
        "ofPane 4 2 = 6", "ofPane 4 3 = 3", "ofPane 4 4 = 1", "ofPane 4 5 = 4", "ofPane 4 6 = 1",
        "ofPane 4 7 = 0", "ofPane 4 8 = 1", "ofPane 4 9 = 1", "reader 4 4 = 3", "ofPane 4 0 = 2",
        "ofPane 4 1 = 5", "ofPane 4 2 = 6", "ofPane 4 3 = 3", "ofPane 4 4 = 1", "ofPane 4 5 = -9",
        "ofPane 4 6 = 1", "ofPane 4 7 = 1", "ofPane 4 8 = 0", "ofPane 4 9 = 1", "house 4 = 0",
        "house 5 = 0");
    Script.playBehind("29 ofPane: nothing LEFT, one LEFT, LIMIT 0, LIMIT is CAPACITY", Script.PART,
        "go 4 4 = 2", "ofPane 4 3 = 1", "ofPane 4 6 = 1", "go 4 5 = 4", "ofPane 4 3 = 0",
        "ofPane 4 6 = 0", "ofPane 4 9 = 1", "end 4 6 = 5", "ofPane 4 9 = 0", "ofPane 4 6 = 1",
        "end 4 0 = 6", "ofPane 4 9 = 6", "ofPane 4 0 = 0", "ofPane 4 4 = -1", "mark 4 = 0",
        "ofPane 4 4 = 0");
    Script.play("29 ofPane: START at its least and its most", "ofPane 0 5 = 0",
        "part 0 0 16 0 = 0", "ofPane 0 5 = 16", "reader 0 0 = 0", "ofPane 0 5 = -9");
    for (String what : new String[] {"-1", "10", "11", "-2147483648", "2147483647"}) {
      Script.play("29 ofPane: what is 0 to 9", "ofPane 0 " + what + NOT_SO, "reader 0 0 = 16",
          "ofPane 0 " + what + NOT_SO, "ofPane 5 " + what + NOT_SO);
    }
  }

  private static void promise30() {
    Script.playBehind("30 at: 0 to LIMIT - 1", Script.PART, "at 4 0 = 5", "at 4 4 = 9",
        "at 4 5 = -9", "at 4 6 = -9", "at 4 -1 = -9", "at 4 -4 = -9", "at 4 11 = -9",
        "at 4 12 = -9", "stretch 4 1 = 6", "at 4 5 = 10", "at 4 6 = -9", "house 5 = 0");
    for (String index : FAR_OFF) {
      Script.playBehind("30 at: far off", Script.PART, "at 4 " + index + " = -9", "house 5 = 0");
    }
    Script.play("30 at: LIMIT 0, LIMIT 1, LIMIT 16", "lay 0 3 = 0", "lay 15 4 = 0", "at 0 15 = 4",
        "at 0 16 = -9", "end 0 0 = 16", "at 0 0 = -9", "end 0 1 = 0", "at 0 0 = 3", "at 0 1 = -9");
    Script.play("30 at: -9 is never a VALUE, 0 and the greatest are", "lay 0 2147483647 = 0",
        "at 0 0 = 2147483647", "at 0 1 = 0");
  }

  private static void promise31() {
    Script.playBehind("31 peek: the last place below LIMIT, not the one at LIMIT", Script.PART,
        "peek 4 = 7", "go 4 4 = 2", "peek 4 = 9", "go 4 5 = 4", "peek 4 = -9", "stretch 4 1 = 6",
        "peek 4 = 10", "go 4 6 = 5", "peek 4 = -9", "go 4 0 = 6", "peek 4 = 5", "end 4 0 = 6",
        "peek 4 = -9", "house 2 = 0");
    Script.play("31 peek: the greatest VALUE", "put 0 2147483647 = 1", "pop 0 = 2147483647",
        "peek 0 = 2147483647");
  }

  private static void promise32() {
    Script.playBehind("32 total: everything, one, nothing of what could be LEFT", Script.PART,
        "total 4 = 24", "rewind 4 = 5", "total 4 = 35", "clear 4 = 6", "total 4 = 45",
        "go 4 5 = 0", "total 4 = 10", "end 4 5 = 6", "total 4 = 0", "clear 4 = 6", "end 4 1 = 6",
        "total 4 = 5", "end 4 0 = 1", "total 4 = 0", "clear 0 = 16", "total 0 = 136");
    Script.play("32 total: where 31 and where 32 bits end", "put 0 2147483646 = 1",
        "put 0 1 = 2", "flip 0 = 2", "total 0 = 2147483647", "putAt 0 1 2 = 1",
        "total 0 = 2147483648", "putAt 0 0 2147483647 = 2147483646",
        "putAt 0 1 2147483647 = 2", "total 0 = 4294967294", "clear 0 = 16", "lay 2 1 = 0",
        "total 0 = 4294967295", "lay 3 1 = 0", "total 0 = 4294967296", "lay 2 0 = 1",
        "lay 3 0 = 1", "lay 15 9 = 0", "total 0 = 4294967303");
  }

  private static void promise33() {
    Script.playBehind("33 text: everything, one, nothing of what could be LEFT", Script.PART,
        "text 4 = 7 8 9", "rewind 4 = 5", "text 4 = 5 6 7 8 9", "clear 4 = 6",
        "text 4 = 5 6 7 8 9 10", "go 4 5 = 0", "text 4 = 10", "end 4 5 = 6", "text 4 = ",
        "go 4 4 = 5", "text 4 = 9", "end 4 0 = 5", "text 4 = ");
    Script.play("33 text: VALUES of 1 to 10 digits, and where the digits become more",
        "lay 0 9 = 0", "lay 1 10 = 0", "lay 2 99 = 0", "lay 3 100 = 0", "lay 4 999999999 = 0",
        "lay 5 1000000000 = 0", "lay 6 2147483647 = 0", "lay 7 1000001 = 0",
        "text 0 = 9 10 99 100 999999999 1000000000 2147483647 1000001 0 0 0 0 0 0 0 0");
  }

  private static void promise34() {
    Script.playBehind("34 whole: a sign ahead of a VALUE, all apart", Script.PART,
        "whole 4 = 5 |6 >7 8 9 <10 ", "go 4 1 = 2", "whole 4 = 5 |>6 7 8 9 <10 ",
        "go 4 5 = 1", "whole 4 = 5 |6 7 8 9 ><10 ", "mark 4 = 5", "whole 4 = 5 6 7 8 9 |><10 ",
        "end 4 6 = 5", "whole 4 = 5 6 7 8 9 |>10 <", "go 4 6 = 5", "whole 4 = 5 6 7 8 9 |10 ><",
        "mark 4 = 6", "whole 4 = 5 6 7 8 9 10 |><", "clear 4 = 6", "whole 4 = >5 6 7 8 9 10 <",
        "mark 4 = 0", "end 4 0 = 6", "whole 4 = |><5 6 7 8 9 10 ");
    Script.play("34 whole: of the most VALUES, the greatest", "fresh 4 12 = 12",
        "putAt 4 11 2147483647 = 0", "whole 4 = >0 0 0 0 0 0 0 0 0 0 0 2147483647 <",
        "lay 15 2147483647 = 0", "whole 0 = >0 0 0 0 0 0 0 0 0 0 0 0 0 0 0 2147483647 <");
  }

  private static void promise35() {
    Script.play("35 row: whatever lies over it", "fill 0 1 1 16 = 16", "fresh 0 0 = 0",
        "part 1 1 16 0 = 0", "reader 2 2 = 16", "end 3 0 = 16",
        "row  = 1 2 3 4 5 6 7 8 9 10 11 12 13 14 15 16", "fresh 2 12 = 12", "fresh 3 12 = 12",
        "fresh 1 12 = 12", "row  = 1 2 3 4 5 6 7 8 9 10 11 12 13 14 15 16");
    Script.play("35 row: the greatest VALUES at both ends", "lay 0 2147483647 = 0",
        "lay 15 2147483647 = 0", "row  = 2147483647 0 0 0 0 0 0 0 0 0 0 0 0 0 0 2147483647");
  }

  private static void promise36() {
    Script.play("36 isKin: over one ROW without a place that both show", "part 1 0 0 8 = 8",
        "part 2 0 8 8 = 8", "isKin 1 2 = 1", "sees 1 7 2 = -1", "sees 2 0 1 = -1",
        "part 1 0 0 0 = 0", "part 2 0 16 0 = 0", "isKin 1 2 = 1", "isKin 2 0 = 1", "isKin 1 4 = 0");
    Script.play("36 isKin: with itself", "isKin 0 0 = 1", "isKin 5 5 = 1", "fresh 5 0 = 0",
        "isKin 5 5 = 1", "reader 5 5 = 0", "isKin 5 5 = -9");
    Script.play("36 isKin: a READER as the one, as the other, as both", "reader 5 4 = 8",
        "reader 3 3 = 16", "isKin 5 4 = -9", "isKin 4 5 = -9", "isKin 5 3 = -9", "isKin 3 0 = -9",
        "isKin 5 0 = -9", "isKin 0 5 = -9", "isKin 4 0 = 0", "house 4 = 0");
    Script.play("36 isKin: the same ROW again", "twin 5 4 = 8", "fresh 4 8 = 8", "isKin 4 5 = 0",
        "twin 4 5 = 8", "isKin 4 5 = 1", "wrap 4 0 0 = 0", "isKin 4 3 = 1");
  }

  private static void promise37Index() {
    String[] shifted = {"part 1 0 3 5 = 5", "part 2 0 5 6 = 6", "end 1 1 = 5", "end 2 0 = 6"};
    Script.playEach("37 sees: index is 0 to CAPACITY - 1", shifted,
        "sees 1 0 0 = 3", "sees 1 4 0 = 7", "sees 1 5 0 = -1", "sees 1 -1 0 = -1",
        "sees 1 -3 0 = -1", "sees 2 5 0 = 10", "sees 2 6 0 = -1", "sees 2 -1 1 = -1",
        "sees 2 -2 1 = -1", "sees 0 15 0 = 15", "sees 0 16 0 = -1", "sees 0 0 0 = 0");
    Script.playEach("37 sees: the other one's INDEX is 0 to CAPACITY - 1", shifted,
        "sees 1 1 2 = -1", "sees 1 2 2 = 0", "sees 1 4 2 = 2", "sees 2 2 1 = 4", "sees 2 3 1 = -1",
        "sees 2 0 1 = 2", "sees 0 2 1 = -1", "sees 0 3 1 = 0", "sees 0 7 1 = 4", "sees 0 8 1 = -1",
        "sees 0 4 2 = -1", "sees 0 5 2 = 0", "sees 0 10 2 = 5", "sees 0 11 2 = -1");
    for (String index : FAR_OFF) {
      Script.playEach("37 sees: far off", shifted, "sees 1 " + index + " 0 = -1",
          "sees 0 " + index + " 2 = -1", "sees 1 " + index + " 2 = -1",
          "sees 2 " + index + " 1 = -1", "sees 2 " + index + " 2 = -1");
    }
  }

  private static void promise37() {
    Script.play("37 sees: a READER ahead of another ROW and of no INDEX", "reader 5 5 = 8",
        "sees 5 0 0 = -9", "sees 0 0 5 = -9", "sees 0 16 5 = -9", "sees 5 -1 5 = -9",
        "sees 5 2147483647 4 = -9", "sees 4 -2147483648 5 = -9", "house 4 = 0", "house 5 = 0");
    Script.play("37 sees: another ROW of the same length, at the same INDEX",
        "sees 4 0 5 = -1", "sees 4 7 5 = -1", "sees 4 0 4 = 0", "sees 4 7 4 = 7", "sees 4 8 4 = -1",
        "sees 0 0 4 = -1");
  }

  private static void promise38() {
    Script.playBehind("38 would: each", Script.PART, "would 4 0 = 6", "would 4 1 = 2",
        "would 4 2 = 5", "would 4 3 = 4", "go 4 5 = 2", "would 4 1 = 5", "would 4 3 = 4",
        "go 4 0 = 5", "would 4 1 = 0", "would 4 3 = -9", "end 4 0 = 5", "would 4 2 = 0",
        "would 4 0 = 6", "mark 4 = 0", "would 4 3 = 0", "house 3 = 0");
    String[] calls = {"clear 4 = 6", "flip 4 = 2", "rewind 4 = 5", "back 4 = 1"};
    String[] left = {"6", "2", "5", "4"};
    for (int what = 0; what < 4; what++) {
      Script.playBehind("38 would: as it is then behind " + calls[what], Script.PART,
          "would 4 " + what + " = " + left[what], "ofPane 4 3 = 3", calls[what],
          "ofPane 4 3 = " + left[what]);
    }
    for (String what : new String[] {"-1", "4", "5", "-2147483648", "2147483647"}) {
      Script.play("38 would: what is 0 to 3", "would 0 " + what + NOT_SO, "mark 0 = 0",
          "would 0 " + what + NOT_SO, "would 5 " + what + NOT_SO);
    }
    Script.play("38 would: of a READER, at LIMIT", "go 4 8 = 0", "mark 4 = 8", "reader 4 4 = 0",
        "would 4 0 = 8", "would 4 1 = 8", "would 4 2 = 8", "would 4 3 = 0", "house 4 = 0");
  }

  private static void promise39() {
    for (String what : new String[] {"-1", "9", "10", "-2147483648", "2147483647"}) {
      Script.play("39 house: what is 0 to 8", "knock  = 1", "mark 0 = 0", "house " + what + NOT_SO,
          "house 0 = 1", "house 8 = 1");
    }
    Script.play("39 house: all PANES are READERS, all have a MARK", "reader 0 0 = 16",
        "reader 1 1 = 16", "reader 2 2 = 16", "reader 3 3 = 16", "reader 4 4 = 8", "house 7 = 5",
        "reader 5 5 = 8", "house 7 = 6", "house 8 = 0", "mark 0 = 0", "mark 1 = 0", "mark 2 = 0",
        "mark 3 = 0", "mark 4 = 0", "house 8 = 5", "mark 5 = 0", "house 8 = 6", "mark 5 = 0",
        "house 8 = 6", "wrap 0 0 0 = 0", "house 7 = 5", "house 8 = 5", "house 0 = 14");
    Script.play("39 house: told as counted once, by the calls that go on", "end 4 2 = 8",
        "fill 4 1 1 20 = 2 FULL", "pour 0 4 20 = 0 FULL", "drain 4 20 = 0 EMPTY", "house 1 = 2",
        "house 2 = 1", "house 0 = 4", "reader 4 4 = 0", "fill 4 1 1 20 = 0 READER",
        "pour 0 4 20 = 0 READER", "house 4 = 2", "house 1 = 2", "house 0 = 7");
  }

  private static void promise40() {
    Script.play("40 knock: no PANE, ROW or other count hears of it", "knock  = 1",
        "put 0 -1" + NOT_SO, "pop 0 = -9 BEYOND", "knock  = 2", "mark 0 = 0", "knock  = 3",
        "house 6 = 3", "house 5 = 1", "house 0 = 1");
  }

  private static void promise41() {
    Script.playBehind("41 isSound: with MARK, POSITION, LIMIT and CAPACITY all at one place",
        Script.PART, "isSound  = true", "end 4 6 = 5", "go 4 6 = 2", "mark 4 = 6",
        "isSound  = true", "end 4 0 = 6", "mark 4 = 0", "isSound  = true", "reader 5 4 = 0",
        "isSound  = true", "rest 3 5 = 0", "part 2 0 16 0 = 0", "fresh 1 0 = 0",
        "isSound  = true", "rest 0 0 = 16", "isSound  = true", "house 0 = 17");
  }

  /** The sums are worked out apart from any program of this project, by the document's words. */
  private static void promise42() {
    Script.play("42 digest: of a new object", "digest  = -1577922985090694230");
    Script.playBehind("42 digest: with all counts, a READER, a MARK and no place", Script.PART,
        "reader 3 4 = 3", "fresh 5 0 = 0", "put 5 1 = -9 FULL", "get 5 = -9 EMPTY",
        "back 5 = -9 NO MARK", "pack 3 = -9 READER", "pop 5 = -9 BEYOND", "knock  = 1",
        "digest  = -5443234270777257936", "digest  = -5443234270777257936");
  }
}
