/** Promises 9 to 17, sentence by sentence, at the boundaries that MovedTest leaves open. */
public final class MovedEdgesTest {
  private static final String NOT_SO = " = throws IllegalArgumentException";
  private static final String AS_BEFORE = "whole 4 = 5 |6 >7 8 9 <10 ";
  /** Each way a MARK goes that is at POSITION 2 of PANE 4. */
  private static final String[] WITHOUT_MARK = {"wrap 4 0 16 = 16", "fresh 4 8 = 8",
      "twin 4 5 = 8", "reader 4 5 = 8", "rest 4 4 = 6", "part 4 4 0 8 = 8", "exchange 4 5 = 0",
      "go 4 1 = 2", "move 4 -1 = 1", "end 4 1 = 8", "stretch 4 -7 = 1", "clear 4 = 8",
      "flip 4 = 2", "rewind 4 = 8", "pack 4 = 6", "pop 4 = 0"};

  public static void main(String[] args) {
    promise9();
    promise10();
    promise11();
    promise12();
    promise13();
    promise14();
    promise15();
    promise16();
    promise17();
    Script.end();
  }

  private static void promise9() {
    Script.playBehind("9 go: 0 to LIMIT is let", Script.PART, "go 4 4 = 2", "go 4 5 = 4",
        "ofPane 4 0 = 5", "ofPane 4 3 = 0", "go 4 1 = 5", "ofPane 4 4 = 1", "go 4 0 = 1",
        "ofPane 4 0 = 0", "ofPane 4 4 = -1", "go 4 5 = 0", "back 4 = -9 NO MARK");
    for (String place : new String[] {"-1", "6", "7", "16", "-2147483648", "2147483647"}) {
      Script.playBehind("9 go: BEYOND, MARK and POSITION stay", Script.PART,
          "go 4 " + place + " = -9 BEYOND", AS_BEFORE, "go 4 5 = 2", "back 4 = 4");
    }
    Script.play("9 go: LIMIT is CAPACITY", "go 0 16 = 0", "go 0 17 = -9 BEYOND", "go 0 15 = 16",
        "go 4 8 = 0", "go 4 9 = -9 BEYOND", "go 4 7 = 8");
    Script.play("9 go: LIMIT is 0", "end 0 0 = 16", "go 0 0 = 0", "go 0 1 = -9 BEYOND",
        "go 0 -1 = -9 BEYOND");
  }

  private static void promise10() {
    Script.playBehind("10 move: to 0, to LIMIT", Script.PART, "move 4 3 = 5", "ofPane 4 3 = 0",
        "move 4 -4 = 1", "ofPane 4 4 = 1", "move 4 -1 = 0", "ofPane 4 4 = -1", "move 4 5 = 5",
        "move 4 -5 = 0");
    for (String by : new String[] {"-3", "4", "-20", "20", "-19", "19"}) {
      Script.playBehind("10 move: BEYOND, MARK and POSITION stay", Script.PART,
          "move 4 " + by + " = -9 BEYOND", AS_BEFORE, "move 4 3 = 5", "back 4 = 4");
    }
    for (String by : new String[] {"-21", "21", "-22", "22", "-2147483648", "2147483647",
        "2147483646"}) {
      Script.playBehind("10 move: by is -20 to 20", Script.PART, "move 4 " + by + NOT_SO,
          AS_BEFORE, "house 5 = 0", "move 4 0 = 2");
    }
    Script.play("10 move: by as much as there is", "move 0 16 = 16", "move 0 1 = -9 BEYOND",
        "move 0 -16 = 0", "move 0 -1 = -9 BEYOND", "move 0 17 = -9 BEYOND", "end 0 0 = 16",
        "move 0 0 = 0", "move 0 1 = -9 BEYOND", "move 0 -1 = -9 BEYOND");
  }

  private static void promise11() {
    Script.playBehind("11 end: 0 to CAPACITY is let", Script.PART, "end 4 6 = 5",
        "ofPane 4 9 = 0", "at 4 5 = 10", "end 4 5 = 6", "at 4 5 = -9", AS_BEFORE, "end 4 0 = 5",
        "whole 4 = ><5 6 7 8 9 10 ", "ofPane 4 9 = 6", "end 4 6 = 0", "text 4 = 5 6 7 8 9 10");
    for (String place : new String[] {"-1", "7", "12", "16", "-2147483648", "2147483647"}) {
      Script.playBehind("11 end: BEYOND, MARK, POSITION and LIMIT stay", Script.PART,
          "end 4 " + place + " = -9 BEYOND", AS_BEFORE, "end 4 6 = 5", "back 4 = 1");
    }
    Script.playBehind("11 end: at POSITION, POSITION and MARK stay", Script.PART, "end 4 2 = 5",
        "whole 4 = 5 |6 ><7 8 9 10 ", "get 4 = -9 EMPTY", "back 4 = 1");
    Script.playBehind("11 end: below POSITION, at MARK", Script.PART, "end 4 1 = 5",
        "whole 4 = 5 |><6 7 8 9 10 ", "back 4 = 0");
    Script.playBehind("11 end: below MARK", Script.PART, "end 4 0 = 5", "back 4 = -9 NO MARK",
        "end 4 6 = 0", "ofPane 4 0 = 0", "ofPane 4 4 = -1");
    Script.play("11 end: above POSITION it leaves POSITION", "go 4 3 = 0", "end 4 4 = 8",
        "ofPane 4 0 = 3", "ofPane 4 3 = 1", "end 4 3 = 4", "ofPane 4 0 = 3", "end 4 2 = 3",
        "ofPane 4 0 = 2");
    Script.play("11 end: CAPACITY of the LONG ROW", "end 0 16 = 16", "end 0 17 = -9 BEYOND",
        "end 0 15 = 16", "end 0 16 = 15", "ofPane 0 1 = 16");
  }

  private static void promise12() {
    Script.playBehind("12 stretch: to 0, to CAPACITY", Script.PART, "stretch 4 1 = 6",
        "at 4 5 = 10", "stretch 4 -6 = 0", "whole 4 = ><5 6 7 8 9 10 ", "stretch 4 6 = 6",
        "ofPane 4 4 = -1", "text 4 = 5 6 7 8 9 10");
    for (String by : new String[] {"-6", "2", "-20", "20", "-19", "19"}) {
      Script.playBehind("12 stretch: BEYOND, MARK, POSITION and LIMIT stay", Script.PART,
          "stretch 4 " + by + " = -9 BEYOND", AS_BEFORE, "stretch 4 1 = 6", "back 4 = 1");
    }
    for (String by : new String[] {"-21", "21", "-22", "22", "-2147483648", "2147483647"}) {
      Script.playBehind("12 stretch: by is -20 to 20", Script.PART, "stretch 4 " + by + NOT_SO,
          AS_BEFORE, "house 5 = 0", "stretch 4 0 = 5", AS_BEFORE);
    }
    Script.playBehind("12 stretch: at POSITION", Script.PART, "stretch 4 -3 = 2",
        "whole 4 = 5 |6 ><7 8 9 10 ", "back 4 = 1");
    Script.playBehind("12 stretch: below POSITION, at MARK", Script.PART, "stretch 4 -4 = 1",
        "whole 4 = 5 |><6 7 8 9 10 ", "back 4 = 0");
    Script.playBehind("12 stretch: below MARK", Script.PART, "stretch 4 -5 = 0",
        "back 4 = -9 NO MARK", "stretch 4 5 = 5", "ofPane 4 0 = 0");
    Script.play("12 stretch: from nothing to all", "end 0 0 = 16", "stretch 0 17 = -9 BEYOND",
        "stretch 0 -1 = -9 BEYOND", "stretch 0 16 = 16", "stretch 0 1 = -9 BEYOND",
        "stretch 0 -17 = -9 BEYOND", "stretch 0 -16 = 0");
  }

  private static void promise13() {
    Script.playBehind("13 mark: one that is there already moves", Script.PART, "mark 4 = 2",
        "whole 4 = 5 6 |>7 8 9 <10 ", "house 8 = 1", "go 4 0 = 2", "mark 4 = 0", "ofPane 4 4 = 0",
        "go 4 5 = 0", "mark 4 = 5", "whole 4 = 5 6 7 8 9 |><10 ", "back 4 = 0");
    Script.play("13 mark: at CAPACITY", "go 4 8 = 0", "mark 4 = 8", "pop 4 = 0",
        "back 4 = -9 NO MARK", "mark 4 = 7", "go 4 8 = 7", "back 4 = 1");
    Script.play("13 mark: with nothing LEFT", "end 0 0 = 16", "mark 0 = 0", "back 0 = 0",
        "ofPane 0 4 = 0", "house 8 = 1", "house 0 = 3");
  }

  private static void promise14() {
    Script.playBehind("14 back: as far as it goes, and not at all", Script.PART, "back 4 = 1",
        "back 4 = 0", "go 4 5 = 1", "back 4 = 4", "rewind 4 = 5", "mark 4 = 0", "go 4 5 = 0",
        "back 4 = 5", "ofPane 4 0 = 0", "ofPane 4 4 = 0");
    Script.playEach("14 back: NO MARK of a new PANE", new String[] {"go 0 16 = 0"},
        "back 0 = -9 NO MARK", "back 1 = -9 NO MARK", "back 5 = -9 NO MARK");
    for (String call : WITHOUT_MARK) {
      Script.play("14 back: NO MARK behind " + call, "go 4 2 = 0", "mark 4 = 2", call,
          "back 4 = -9 NO MARK", "ofPane 4 4 = -1", "house 3 = 1", "would 4 3 = -9");
    }
    Script.play("14 back: a MARK comes again with a twin, and with exchange()", "go 5 3 = 0",
        "mark 5 = 3", "go 5 8 = 3", "back 4 = -9 NO MARK", "twin 4 5 = 0", "back 4 = 5",
        "exchange 5 0 = 0", "back 5 = -9 NO MARK", "back 0 = 5");
  }

  private static void promise15() {
    Script.playBehind("15 clear: of a part, CAPACITY bounds it", Script.PART, "clear 4 = 6",
        "whole 4 = >5 6 7 8 9 10 <", "go 4 7 = -9 BEYOND", "end 4 7 = -9 BEYOND",
        "row  = 1 2 3 4 5 6 7 8 9 10 11 12 13 14 15 16");
    Script.play("15 clear: nothing LEFT before, everything LEFT before",
        "fill 4 1 1 8 = 8", "clear 4 = 8", "clear 4 = 8", "end 4 0 = 8", "clear 4 = 8",
        "text 4 = 1 2 3 4 5 6 7 8", "go 4 8 = 0", "mark 4 = 8", "clear 4 = 8",
        "back 4 = -9 NO MARK", "ofPane 4 0 = 0");
    Script.play("15 clear: with a MARK at 0", "mark 4 = 0", "clear 4 = 8", "ofPane 4 4 = -1",
        "house 8 = 0");
  }

  private static void promise16() {
    Script.playBehind("16 flip: LIMIT is POSITION, not CAPACITY", Script.PART, "flip 4 = 2",
        "whole 4 = >5 6 <7 8 9 10 ", "back 4 = -9 NO MARK", "drain 4 3 = 2 EMPTY",
        "go 4 3 = -9 BEYOND");
    Script.play("16 flip: at POSITION 0, 1, CAPACITY", "fill 4 1 1 8 = 8", "flip 4 = 8",
        "ofPane 4 1 = 8", "get 4 = 1", "flip 4 = 1", "whole 4 = >1 <2 3 4 5 6 7 8 ", "flip 4 = 0",
        "whole 4 = ><1 2 3 4 5 6 7 8 ", "get 4 = -9 EMPTY", "put 4 1 = -9 FULL", "flip 4 = 0",
        "clear 4 = 8");
    Script.play("16 flip: with a MARK at 0", "mark 4 = 0", "go 4 3 = 0", "flip 4 = 3",
        "ofPane 4 4 = -1", "house 8 = 0");
  }

  private static void promise17() {
    Script.playBehind("17 rewind: LIMIT stays", Script.PART, "rewind 4 = 5",
        "whole 4 = >5 6 7 8 9 <10 ", "back 4 = -9 NO MARK", "go 4 5 = 0", "rewind 4 = 5",
        "go 4 6 = -9 BEYOND");
    Script.play("17 rewind: nothing there, everything there", "end 4 0 = 8", "rewind 4 = 0",
        "rewind 0 = 16", "go 0 16 = 0", "mark 0 = 16", "rewind 0 = 16", "ofPane 0 4 = -1",
        "ofPane 0 0 = 0", "ofPane 0 1 = 16");
  }
}
