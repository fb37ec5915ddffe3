/** Promises 18 to 28: the sections "written" and "taken". */
public final class WrittenTest {
  private static final String NO_PANE = " = throws IndexOutOfBoundsException";
  private static final String NOT_SO = " = throws IllegalArgumentException";

  public static void main(String[] args) {
    promise18();
    promise19();
    promise20();
    promise21();
    promise22();
    promise23();
    promise24();
    promise25();
    promise26();
    promise27();
    promise28();
    Script.end();
  }

  private static void promise18() {
    Script.play("18 put",
        "put 4 5 = 1", "put 4 0 = 2", "put 4 2147483647 = 3",
        "whole 4 = 5 0 2147483647 >0 0 0 0 0 <", "house 0 = 3", "part 0 1 4 3 = 3",
        "put 0 9 = 1", "at 1 4 = 9", "mark 0 = 1", "put 0 8 = 2", "ofPane 0 4 = 1");
    Script.play("18 put refused: reader, then full",
        "go 4 8 = 0", "put 4 1 = -9 FULL", "house 1 = 1", "reader 4 4 = 0", "put 4 1 = -9 READER",
        "house 1 = 1", "house 4 = 1", "go 4 0 = 8", "put 4 1 = -9 READER", "house 4 = 2",
        "end 5 3 = 8", "go 5 3 = 0", "put 5 1 = -9 FULL", "house 1 = 2");
    Script.play("18 put of what can't be",
        "put 4 -1" + NOT_SO, "put 4 -2147483648" + NOT_SO, "put 6 -1" + NO_PANE,
        "put -1 0" + NO_PANE, "go 4 8 = 0", "put 4 -1" + NOT_SO, "house 1 = 0",
        "reader 4 4 = 0", "put 4 -1" + NOT_SO, "house 4 = 0");
  }

  private static void promise19() {
    Script.play("19 putAt",
        "go 4 5 = 0", "putAt 4 0 6 = 0", "putAt 4 0 7 = 6", "putAt 4 7 2147483647 = 0",
        "putAt 4 5 0 = 0", "ofPane 4 0 = 5", "whole 4 = 7 0 0 0 0 >0 0 2147483647 <",
        "part 5 0 3 4 = 4", "putAt 5 3 9 = 0", "at 0 6 = 9", "putAt 5 3 1 = 9");
    Script.play("19 putAt refused: beyond, then reader",
        "end 4 5 = 8", "putAt 4 5 1 = -9 BEYOND", "putAt 4 -1 1 = -9 BEYOND",
        "putAt 4 2147483647 1 = -9 BEYOND", "putAt 4 -2147483648 1 = -9 BEYOND", "house 5 = 4",
        "reader 4 4 = 5", "putAt 4 5 1 = -9 BEYOND", "house 5 = 5", "house 4 = 0",
        "putAt 4 4 1 = -9 READER", "house 4 = 1", "house 5 = 5");
    Script.play("19 putAt of what can't be",
        "putAt 4 0 -1" + NOT_SO, "putAt 4 99 -1" + NOT_SO, "putAt 6 0 -1" + NO_PANE,
        "putAt -1 0 0" + NO_PANE, "house 5 = 0");
  }

  private static void promise20() {
    Script.play("20 bring",
        "fill 4 1 1 8 = 8", "go 5 2 = 0", "bring 5 3 4 6 = 0", "at 5 3 = 7", "bring 5 3 4 0 = 7",
        "at 5 3 = 1", "ofPane 5 0 = 2", "ofPane 4 0 = 8", "bring 4 0 4 7 = 1", "at 4 0 = 8",
        "bring 4 2 4 2 = 3", "at 4 2 = 3");
    Script.play("20 bring from a reader, and between shared places",
        "fill 0 1 1 16 = 16", "reader 1 0 = 0", "bring 4 0 1 15 = 0", "at 4 0 = 16",
        "part 5 0 4 4 = 4", "bring 5 0 0 5 = 5", "at 0 4 = 6", "bring 0 0 5 3 = 1",
        "at 0 0 = 8");
    Script.play("20 bring refused: beyond, then reader",
        "end 4 5 = 8", "end 5 3 = 8", "bring 4 0 5 3 = -9 BEYOND", "bring 4 0 5 -1 = -9 BEYOND",
        "bring 4 5 5 0 = -9 BEYOND", "bring 4 -1 5 0 = -9 BEYOND",
        "bring 4 2147483647 5 0 = -9 BEYOND", "bring 4 0 5 2147483647 = -9 BEYOND",
        "bring 4 5 5 3 = -9 BEYOND", "house 5 = 7", "reader 4 4 = 5", "bring 4 5 5 0 = -9 BEYOND",
        "bring 4 0 5 3 = -9 BEYOND", "house 5 = 9", "bring 4 4 5 2 = -9 READER", "house 4 = 1",
        "house 5 = 9");
    Script.play("20 bring of what is not there",
        "bring 6 0 0 0" + NO_PANE, "bring 0 0 6 0" + NO_PANE, "bring -1 99 0 0" + NO_PANE,
        "bring 0 0 -1 99" + NO_PANE);
  }

  private static void promise21() {
    Script.play("21 fill",
        "fill 4 3 2 4 = 4", "whole 4 = 3 5 7 9 >0 0 0 0 <", "fill 4 1 0 1 = 1", "fill 4 8 8 0 = 0",
        "whole 4 = 3 5 7 9 1 >0 0 0 <", "fill 4 1000000 1000000 3 = 3",
        "text 4 = ", "at 4 7 = 3000000", "house 1 = 0", "house 0 = 4");
    Script.play("21 fill till it is refused: that is counted, the act is done",
        "fill 4 1 1 9 = 8 FULL", "house 1 = 1", "house 0 = 1", "fill 4 1 1 20 = 0 FULL",
        "house 1 = 2", "fill 4 1 1 0 = 0", "house 1 = 2", "house 0 = 3", "clear 4 = 8",
        "fill 4 1 1 8 = 8", "house 1 = 2");
    Script.play("21 fill of a reader",
        "reader 4 4 = 8", "fill 4 1 1 0 = 0", "house 4 = 0", "fill 4 1 1 5 = 0 READER",
        "house 4 = 1", "go 4 8 = 0", "fill 4 1 1 1 = 0 READER", "house 4 = 2", "house 1 = 0",
        "house 0 = 5", "total 4 = 0");
    Script.play("21 fill keeps the mark",
        "go 4 1 = 0", "mark 4 = 1", "fill 4 1 1 2 = 2", "ofPane 4 4 = 1", "back 4 = 2");
    Script.play("21 fill of what can't be",
        "fill 4 -1 0 0" + NOT_SO, "fill 4 1000001 0 0" + NOT_SO, "fill 4 0 -1 0" + NOT_SO,
        "fill 4 0 1000001 0" + NOT_SO, "fill 4 0 0 -1" + NOT_SO, "fill 4 0 0 21" + NOT_SO,
        "fill 6 -1 0 0" + NO_PANE, "fill -1 0 0 0" + NO_PANE, "fill 4 0 0 20 = 8 FULL");
  }

  private static void promise22() {
    Script.play("22 pack",
        "fill 4 1 1 8 = 8", "go 4 3 = 8", "mark 4 = 3", "end 4 6 = 8", "pack 4 = 3",
        "whole 4 = 4 5 6 >4 5 6 7 8 <", "back 4 = -9 NO MARK", "house 0 = 5");
    Script.play("22 pack with much and with nothing left",
        "fill 4 1 1 8 = 8", "go 4 1 = 8", "pack 4 = 7", "whole 4 = 2 3 4 5 6 7 8 >8 <",
        "go 4 8 = 7", "pack 4 = 0", "whole 4 = >2 3 4 5 6 7 8 8 <", "mark 4 = 0", "pack 4 = 8",
        "whole 4 = 2 3 4 5 6 7 8 8 ><", "ofPane 4 4 = -1");
    Script.play("22 pack of a part",
        "fill 0 1 1 16 = 16", "part 4 0 4 6 = 6", "go 4 2 = 0", "pack 4 = 4",
        "whole 4 = 7 8 9 10 >9 10 <", "row  = 1 2 3 4 7 8 9 10 9 10 11 12 13 14 15 16");
    Script.play("22 pack refused",
        "fill 4 1 1 8 = 8", "go 4 3 = 8", "reader 4 4 = 5", "pack 4 = -9 READER", "house 4 = 1",
        "whole 4 = 1 2 3 >4 5 6 7 8 <");
    Script.play("22 pack of what is not there", "pack 6" + NO_PANE, "pack -1" + NO_PANE);
  }

  private static void promise23() {
    Script.play("23 pour",
        "fill 4 1 1 8 = 8", "flip 4 = 8", "pour 4 5 3 = 3", "whole 5 = 1 2 3 >0 0 0 0 0 <",
        "ofPane 4 0 = 3", "pour 4 5 0 = 0", "pour 4 5 20 = 5", "house 1 = 0", "house 2 = 0",
        "whole 5 = 1 2 3 4 5 6 7 8 ><", "pour 4 5 1 = 0", "house 1 = 0", "house 2 = 0",
        "house 0 = 6");
    Script.play("23 pour into what is full: that value is not taken",
        "fill 0 1 1 16 = 16", "flip 0 = 16", "go 0 2 = 0", "mark 0 = 2", "go 4 5 = 0",
        "pour 0 4 9 = 3 FULL", "ofPane 0 0 = 5", "ofPane 0 4 = 2", "house 1 = 1", "house 0 = 6",
        "pour 0 4 1 = 0 FULL", "ofPane 0 0 = 5", "house 1 = 2", "pour 0 4 0 = 0", "house 1 = 2",
        "mark 0 = 5", "pour 0 4 1 = 0 FULL", "ofPane 0 4 = 5", "pour 0 5 8 = 8", "house 1 = 3",
        "go 0 16 = 13", "pour 0 4 1 = 0", "house 1 = 3");
    Script.play("23 pour into and out of a reader",
        "fill 0 1 1 16 = 16", "reader 1 0 = 0", "clear 1 = 16", "clear 0 = 16",
        "pour 0 1 3 = 0 READER", "house 4 = 1", "ofPane 0 0 = 0", "pour 1 4 3 = 3",
        "text 4 = 0 0 0 0 0", "at 4 2 = 3", "ofPane 1 0 = 3", "pour 1 1 2 = 0 READER",
        "house 4 = 2", "ofPane 1 0 = 3", "go 1 16 = 3", "pour 0 1 1 = 0 READER", "house 4 = 3",
        "house 1 = 0", "pour 1 1 1 = 0", "house 4 = 3", "house 0 = 10");
    Script.play("23 pour into itself",
        "fill 4 1 1 8 = 8", "clear 4 = 8", "pour 4 4 2 = 2", "whole 4 = 1 1 3 3 >5 6 7 8 <",
        "move 4 1 = 5", "pour 4 4 9 = 1 FULL", "whole 4 = 1 1 3 3 5 6 6 >8 <", "house 1 = 1");
    Script.play("23 pour between shared places",
        "fill 0 1 1 16 = 16", "clear 0 = 16", "twin 1 0 = 16", "go 1 1 = 0", "pour 0 1 4 = 4",
        "row  = 1 1 1 1 1 6 7 8 9 10 11 12 13 14 15 16");
    Script.play("23 pour of what can't be",
        "pour 0 4 -1" + NOT_SO, "pour 0 4 21" + NOT_SO, "pour 0 6 21" + NO_PANE,
        "pour 6 0 0" + NO_PANE, "pour -1 0 -1" + NO_PANE, "pour 0 -1 0" + NO_PANE);
  }

  private static void promise24() {
    Script.play("24 lay",
        "lay 0 5 = 0", "lay 15 2147483647 = 0", "lay 0 6 = 5", "lay 0 0 = 6", "lay 3 1 = 0",
        "row  = 0 0 0 1 0 0 0 0 0 0 0 0 0 0 0 2147483647", "at 2 15 = 2147483647",
        "at 4 3 = 0", "house 0 = 5");
    Script.play("24 lay whatever the panes are",
        "reader 0 0 = 16", "end 0 2 = 16", "fresh 1 0 = 0", "fresh 2 1 = 1", "fresh 3 1 = 1",
        "lay 9 4 = 0", "row  = 0 0 0 0 0 0 0 0 0 4 0 0 0 0 0 0");
    Script.play("24 lay of what can't be",
        "lay 16 0" + NO_PANE, "lay -1 0" + NO_PANE, "lay 16 -1" + NO_PANE,
        "lay 2147483647 0" + NO_PANE, "lay -2147483648 -1" + NO_PANE, "lay 0 -1" + NOT_SO,
        "lay 0 -2147483648" + NOT_SO);
  }

  private static void promise25() {
    Script.play("25 reach",
        "end 4 3 = 8", "go 4 2 = 0", "reach 4 0 5 = 0", "reach 4 3 6 = 0", "reach 4 7 7 = 0",
        "reach 4 7 2147483647 = 7", "whole 4 = 5 0 >0 <6 0 0 0 2147483647 ",
        "part 5 0 3 4 = 4", "end 5 0 = 4", "reach 5 3 9 = 0", "at 0 6 = 9");
    Script.play("25 reach refused: reader, then beyond",
        "reach 4 8 1 = -9 BEYOND", "reach 4 -1 1 = -9 BEYOND", "reach 4 2147483647 1 = -9 BEYOND",
        "reach 4 -2147483648 1 = -9 BEYOND", "house 5 = 4", "part 0 0 3 4 = 4",
        "reach 0 4 1 = -9 BEYOND", "reach 0 -1 1 = -9 BEYOND", "house 5 = 6", "reader 4 4 = 8",
        "reach 4 8 1 = -9 READER", "house 5 = 6", "house 4 = 1", "reach 4 0 1 = -9 READER",
        "house 4 = 2");
    Script.play("25 reach of what can't be",
        "reach 4 0 -1" + NOT_SO, "reach 4 99 -1" + NOT_SO, "reach 6 0 -1" + NO_PANE,
        "reach -1 0 0" + NO_PANE, "house 5 = 0");
  }

  private static void promise26() {
    Script.play("26 get",
        "fill 4 5 1 2 = 2", "put 4 2147483647 = 3", "flip 4 = 3", "get 4 = 5", "mark 4 = 1",
        "get 4 = 6", "ofPane 4 0 = 2", "ofPane 4 4 = 1", "reader 5 4 = 1", "get 5 = 2147483647",
        "ofPane 4 0 = 2", "house 0 = 8");
    Script.play("26 get refused",
        "end 4 1 = 8", "get 4 = 0", "get 4 = -9 EMPTY", "house 2 = 1", "reader 4 4 = 0",
        "get 4 = -9 EMPTY", "house 2 = 2", "house 4 = 0");
    Script.play("26 get of what is not there", "get 6" + NO_PANE, "get -1" + NO_PANE);
  }

  private static void promise27() {
    Script.play("27 drain",
        "go 4 1 = 0", "mark 4 = 1", "drain 4 3 = 3", "ofPane 4 0 = 4", "ofPane 4 4 = 1",
        "drain 4 0 = 0", "drain 4 4 = 4", "house 2 = 0", "drain 4 0 = 0", "house 2 = 0",
        "house 0 = 6");
    Script.play("27 drain till it is refused: that is counted, the act is done",
        "drain 4 9 = 8 EMPTY", "house 2 = 1", "house 0 = 1", "drain 4 20 = 0 EMPTY", "house 2 = 2",
        "house 0 = 2", "reader 5 5 = 8", "drain 5 20 = 8 EMPTY", "house 2 = 3", "house 4 = 0");
    Script.play("27 drain of what can't be",
        "drain 4 -1" + NOT_SO, "drain 4 21" + NOT_SO, "drain 6 21" + NO_PANE,
        "drain -1 0" + NO_PANE, "house 2 = 0");
  }

  private static void promise28() {
    Script.play("28 pop",
        "fill 4 1 1 8 = 8", "pop 4 = 8", "ofPane 4 0 = 7", "pop 4 = 7", "at 4 6 = 7",
        "part 5 4 2 3 = 3", "go 5 1 = 0", "pop 5 = 3", "house 0 = 6");
    Script.play("28 pop and the mark",
        "go 4 3 = 0", "mark 4 = 3", "move 4 1 = 4", "pop 4 = 0", "ofPane 4 4 = 3", "pop 4 = 0",
        "ofPane 4 4 = -1", "house 8 = 0");
    Script.play("28 pop refused",
        "mark 4 = 0", "pop 4 = -9 BEYOND", "house 5 = 1", "house 2 = 0", "fresh 0 0 = 0",
        "pop 0 = -9 BEYOND");
    Script.play("28 pop of a reader", "go 4 3 = 0", "reader 4 4 = 5", "pop 4 = 0",
        "ofPane 4 0 = 2");
    Script.play("28 pop of what is not there", "pop 6" + NO_PANE, "pop -1" + NO_PANE);
  }
}
