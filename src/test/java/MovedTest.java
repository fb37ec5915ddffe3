/** Promises 9 to 17: the section "moved". */
public final class MovedTest {
  private static final String NO_PANE = " = throws IndexOutOfBoundsException";
  private static final String NOT_SO = " = throws IllegalArgumentException";

  public static void main(String[] args) {
    promise9();
    promise10();
    promise11();
    promise12();
    promise13();
    promise14();
    promise15();
    promise16();
    promise17();
    Script.end();
  }

  private static void promise9() {
    Script.play("9 go",
        "go 0 5 = 0", "ofPane 0 0 = 5", "go 0 16 = 5", "go 0 0 = 16", "go 0 0 = 0",
        "ofPane 1 0 = 0", "house 0 = 4");
    Script.play("9 go and the mark",
        "go 4 5 = 0", "mark 4 = 5", "go 4 7 = 5", "ofPane 4 4 = 5", "go 4 5 = 7",
        "ofPane 4 4 = 5", "go 4 4 = 5", "ofPane 4 4 = -1");
    Script.play("9 go refused",
        "end 0 9 = 16", "mark 0 = 0", "go 0 10 = -9 BEYOND", "go 0 -1 = -9 BEYOND",
        "go 0 2147483647 = -9 BEYOND", "go 0 -2147483648 = -9 BEYOND", "go 0 9 = 0", "house 5 = 4");
    Script.play("9 go of a reader", "reader 0 0 = 16", "go 0 3 = 0", "ofPane 0 0 = 3");
    Script.play("9 go of what is not there", "go 6 0" + NO_PANE, "go -1 99" + NO_PANE);
  }

  private static void promise10() {
    Script.play("10 move",
        "move 0 5 = 5", "move 0 -2 = 3", "move 0 0 = 3", "move 0 13 = 16", "move 0 -16 = 0");
    Script.play("10 move and the mark",
        "go 0 5 = 0", "mark 0 = 5", "move 0 3 = 8", "move 0 -3 = 5", "ofPane 0 4 = 5",
        "move 0 -1 = 4", "ofPane 0 4 = -1");
    Script.play("10 move refused",
        "end 0 9 = 16", "go 0 4 = 0", "mark 0 = 4", "move 0 6 = -9 BEYOND", "move 0 -5 = -9 BEYOND",
        "move 0 20 = -9 BEYOND", "move 0 -20 = -9 BEYOND", "house 5 = 4", "move 0 5 = 9",
        "move 0 -9 = 0");
    Script.play("10 move by what it can't be",
        "move 0 21" + NOT_SO, "move 0 -21" + NOT_SO, "move 0 2147483647" + NOT_SO,
        "move 0 -2147483648" + NOT_SO, "move 6 21" + NO_PANE, "move -1 0" + NO_PANE,
        "house 5 = 0");
  }

  private static void promise11() {
    Script.play("11 end",
        "end 0 9 = 16", "ofPane 0 1 = 9", "end 0 9 = 9", "end 0 12 = 9", "end 0 16 = 12",
        "ofPane 0 0 = 0", "ofPane 1 1 = 16", "end 0 0 = 16", "whole 0 = "
        + "><0 0 0 0 0 0 0 0 0 0 0 0 0 0 0 0 ");
    Script.play("11 end takes the position with it",
        "go 0 9 = 0", "end 0 9 = 16", "ofPane 0 0 = 9", "end 0 7 = 9", "ofPane 0 0 = 7",
        "end 0 16 = 7", "ofPane 0 0 = 7");
    Script.play("11 end and the mark",
        "go 0 6 = 0", "mark 0 = 6", "go 0 9 = 6", "end 0 7 = 16", "ofPane 0 4 = 6",
        "end 0 6 = 7", "ofPane 0 4 = 6", "end 0 5 = 6", "ofPane 0 4 = -1", "ofPane 0 0 = 5");
    Script.play("11 end refused",
        "go 4 3 = 0", "mark 4 = 3", "end 4 9 = -9 BEYOND", "end 4 -1 = -9 BEYOND",
        "end 4 2147483647 = -9 BEYOND", "end 4 -2147483648 = -9 BEYOND", "end 4 8 = 8",
        "house 5 = 4");
    Script.play("11 end of what is not there", "end 6 0" + NO_PANE, "end -1 99" + NO_PANE);
  }

  private static void promise12() {
    Script.play("12 stretch",
        "stretch 0 -6 = 10", "stretch 0 4 = 14", "stretch 0 2 = 16", "stretch 0 0 = 16",
        "stretch 0 -16 = 0", "stretch 0 16 = 16");
    Script.play("12 stretch takes position and mark with it",
        "go 0 9 = 0", "mark 0 = 9", "go 0 12 = 9", "stretch 0 -6 = 10", "ofPane 0 0 = 10",
        "ofPane 0 4 = 9", "stretch 0 -1 = 9", "ofPane 0 4 = 9", "stretch 0 -1 = 8",
        "ofPane 0 4 = -1", "ofPane 0 0 = 8", "stretch 0 3 = 11", "ofPane 0 0 = 8");
    Script.play("12 stretch refused",
        "end 0 10 = 16", "stretch 0 7 = -9 BEYOND", "stretch 0 -11 = -9 BEYOND",
        "stretch 0 20 = -9 BEYOND", "stretch 0 -20 = -9 BEYOND", "house 5 = 4", "ofPane 0 1 = 10");
    Script.play("12 stretch by what it can't be",
        "stretch 0 21" + NOT_SO, "stretch 0 -21" + NOT_SO, "stretch 0 2147483647" + NOT_SO,
        "stretch 0 -2147483648" + NOT_SO, "stretch 6 21" + NO_PANE, "stretch -1 0" + NO_PANE);
  }

  private static void promise13() {
    Script.play("13 mark",
        "mark 0 = 0", "ofPane 0 4 = 0", "go 0 5 = 0", "mark 0 = 5", "ofPane 0 4 = 5",
        "go 0 16 = 5", "mark 0 = 16", "ofPane 0 4 = 16", "ofPane 1 4 = -1", "house 8 = 1");
    Script.play("13 mark of a reader and of nothing",
        "reader 0 0 = 16", "mark 0 = 0", "fresh 1 0 = 0", "mark 1 = 0", "house 8 = 2",
        "house 0 = 4");
    Script.play("13 the mark stays behind what is taken and put",
        "go 0 2 = 0", "mark 0 = 2", "put 0 1 = 3", "get 0 = 0", "fill 0 1 1 2 = 2",
        "drain 0 2 = 2", "ofPane 0 4 = 2", "ofPane 0 0 = 8");
    Script.play("13 mark of what is not there", "mark 6" + NO_PANE, "mark -1" + NO_PANE);
  }

  private static void promise14() {
    Script.play("14 back",
        "go 0 3 = 0", "mark 0 = 3", "go 0 9 = 3", "back 0 = 6", "ofPane 0 0 = 3",
        "ofPane 0 4 = 3", "back 0 = 0", "go 0 16 = 3", "back 0 = 13", "house 0 = 7");
    Script.play("14 back without a mark",
        "go 0 3 = 0", "back 0 = -9 NO MARK", "house 3 = 1", "mark 0 = 3", "go 0 2 = 3",
        "back 0 = -9 NO MARK", "house 3 = 2", "back 1 = -9 NO MARK", "ofPane 0 0 = 2");
    Script.play("14 back to the mark of a twin",
        "mark 0 = 0", "go 0 4 = 0", "twin 4 0 = 12", "back 4 = 4", "ofPane 0 0 = 4");
    Script.play("14 back of what is not there", "back 6" + NO_PANE, "back -1" + NO_PANE);
  }

  private static void promise15() {
    Script.play("15 clear",
        "fill 4 1 1 5 = 5", "mark 4 = 5", "end 4 6 = 8", "clear 4 = 8",
        "whole 4 = >1 2 3 4 5 0 0 0 <", "back 4 = -9 NO MARK", "clear 4 = 8");
    Script.play("15 clear of a part and a reader",
        "part 4 0 3 5 = 5", "end 4 2 = 5", "go 4 1 = 0", "mark 4 = 1", "clear 4 = 5",
        "ofPane 4 4 = -1", "ofPane 4 5 = 3", "reader 4 4 = 5", "end 4 1 = 5", "clear 4 = 5",
        "ofPane 4 7 = 1");
    Script.play("15 clear of what is not there", "clear 6" + NO_PANE, "clear -1" + NO_PANE);
  }

  private static void promise16() {
    Script.play("16 flip",
        "fill 4 1 1 5 = 5", "mark 4 = 5", "flip 4 = 5", "whole 4 = >1 2 3 4 5 <0 0 0 ",
        "back 4 = -9 NO MARK", "go 4 2 = 0", "mark 4 = 2", "flip 4 = 2", "ofPane 4 4 = -1",
        "flip 4 = 0", "whole 4 = ><1 2 3 4 5 0 0 0 ", "ofPane 4 2 = 8");
    Script.play("16 flip at the end", "go 4 8 = 0", "flip 4 = 8", "ofPane 4 1 = 8");
    Script.play("16 flip of what is not there", "flip 6" + NO_PANE, "flip -1" + NO_PANE);
  }

  private static void promise17() {
    Script.play("17 rewind",
        "fill 4 1 1 5 = 5", "mark 4 = 5", "end 4 6 = 8", "rewind 4 = 6",
        "whole 4 = >1 2 3 4 5 0 <0 0 ", "back 4 = -9 NO MARK", "rewind 4 = 6");
    Script.play("17 rewind with a mark at 0", "mark 4 = 0", "rewind 4 = 8", "ofPane 4 4 = -1");
    Script.play("17 rewind of what is not there", "rewind 6" + NO_PANE, "rewind -1" + NO_PANE);
  }
}
