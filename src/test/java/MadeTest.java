/** Promises 1 to 8: a new object, and the section "made". */
public final class MadeTest {
  private static final String NO_PANE = " = throws IndexOutOfBoundsException";
  private static final String NOT_SO = " = throws IllegalArgumentException";
  private static final String LONG_NEW = ">0 0 0 0 0 0 0 0 0 0 0 0 0 0 0 0 <";
  private static final String SHORT_NEW = ">0 0 0 0 0 0 0 0 <";

  public static void main(String[] args) {
    promise1();
    promise2();
    promise3();
    promise4();
    promise5();
    promise6();
    promise7();
    promise8();
    Script.end();
  }

  private static void promise1() {
    Script.play("1 the panes of a new object",
        "whole 0 = " + LONG_NEW, "whole 1 = " + LONG_NEW, "whole 2 = " + LONG_NEW,
        "whole 3 = " + LONG_NEW, "whole 4 = " + SHORT_NEW, "whole 5 = " + SHORT_NEW,
        "row  = 0 0 0 0 0 0 0 0 0 0 0 0 0 0 0 0",
        "ofPane 3 5 = 0", "ofPane 5 5 = 0", "ofPane 0 4 = -1", "ofPane 0 7 = 0",
        "isKin 0 1 = 1", "isKin 1 2 = 1", "isKin 2 3 = 1", "isKin 3 4 = 0", "isKin 4 5 = 0",
        "isKin 5 0 = 0");
    Script.play("1 the counts of a new object",
        "house 0 = 0", "house 1 = 0", "house 2 = 0", "house 3 = 0", "house 4 = 0", "house 5 = 0",
        "house 6 = 0", "house 7 = 0", "house 8 = 0");
    Script.play("1 the rows of 4 and 5 are two",
        "put 4 7 = 1", "at 5 0 = 0", "at 0 0 = 0", "row  = 0 0 0 0 0 0 0 0 0 0 0 0 0 0 0 0");
  }

  private static void promise2() {
    Script.play("2 wrap",
        "lay 3 9 = 0", "wrap 4 2 5 = 7", "whole 4 = 0 0 >0 9 0 0 0 <0 0 0 0 0 0 0 0 0 ",
        "isKin 4 0 = 1", "ofPane 4 5 = 0", "ofPane 4 2 = 16", "ofPane 4 3 = 5", "house 0 = 2");
    Script.play("2 wrap at the edges",
        "wrap 5 0 0 = 0", "ofPane 5 2 = 16", "wrap 5 0 16 = 16", "whole 5 = " + LONG_NEW,
        "wrap 5 16 0 = 16", "ofPane 5 0 = 16", "ofPane 5 3 = 0", "wrap 5 15 1 = 16",
        "wrap 5 15 0 = 15");
    Script.play("2 wrap of a reader and of a part, without a mark then",
        "go 0 4 = 0", "mark 0 = 4", "part 0 0 6 5 = 5", "go 0 2 = 0", "mark 0 = 2",
        "reader 0 0 = 3", "house 7 = 1", "house 8 = 1", "wrap 0 3 4 = 7", "house 7 = 0",
        "house 8 = 0", "ofPane 0 4 = -1", "ofPane 0 5 = 0", "put 0 1 = 4");
    Script.play("2 wrap of what is not there",
        "wrap 6 0 0" + NO_PANE, "wrap -1 0 0" + NO_PANE, "wrap -1 17 0" + NO_PANE,
        "wrap 0 -1 0" + NOT_SO, "wrap 0 17 0" + NOT_SO, "wrap 0 17 -1" + NOT_SO,
        "wrap 0 0 17" + NOT_SO, "wrap 0 0 -1" + NOT_SO, "wrap 0 10 7" + NOT_SO,
        "wrap 0 16 1" + NOT_SO, "wrap 0 16 2147483647" + NOT_SO,
        "wrap 0 2147483647 2147483647" + NOT_SO, "wrap 0 -2147483648 0" + NOT_SO,
        "house 0 = 0");
  }

  private static void promise3() {
    Script.play("3 fresh",
        "fill 0 1 1 16 = 16", "go 0 3 = 16", "mark 0 = 3", "fresh 0 5 = 5",
        "whole 0 = >0 0 0 0 0 <", "isKin 0 1 = 0", "house 8 = 0", "ofPane 0 5 = 0",
        "fresh 1 5 = 5", "isKin 0 1 = 0", "put 0 8 = 1", "at 1 0 = 0", "row  = 1 2 3 4 5 6 7 8 9 "
        + "10 11 12 13 14 15 16");
    Script.play("3 fresh leaves the row of before to the others",
        "twin 0 4 = 8", "fresh 4 3 = 3", "isKin 0 4 = 0", "put 0 6 = 1", "at 4 0 = 0",
        "rest 1 0 = 7", "isKin 1 0 = 1", "whole 0 = 6 >0 0 0 0 0 0 0 <");
    Script.play("3 fresh of a reader and of a part",
        "part 0 4 2 3 = 3", "reader 0 0 = 3", "fresh 0 4 = 4", "ofPane 0 7 = 0",
        "ofPane 0 5 = 0", "put 0 1 = 1");
    Script.play("3 fresh at the edges",
        "fresh 0 0 = 0", "whole 0 = ><", "text 0 = ", "total 0 = 0", "isKin 0 0 = 1",
        "put 0 1 = -9 FULL", "get 0 = -9 EMPTY", "pack 0 = 0", "clear 0 = 0", "fresh 0 12 = 12",
        "whole 0 = >0 0 0 0 0 0 0 0 0 0 0 0 <");
    Script.play("3 fresh of what is not there",
        "fresh 0 13" + NOT_SO, "fresh 0 -1" + NOT_SO, "fresh 0 2147483647" + NOT_SO,
        "fresh 0 -2147483648" + NOT_SO, "fresh 6 0" + NO_PANE, "fresh -1 13" + NO_PANE);
  }

  private static void promise4() {
    Script.play("4 twin is as the other one in all",
        "part 4 0 3 9 = 9", "end 4 7 = 9", "go 4 2 = 0", "mark 4 = 2", "go 4 5 = 2",
        "twin 5 4 = 2", "ofPane 5 0 = 5", "ofPane 5 1 = 7", "ofPane 5 2 = 9", "ofPane 5 4 = 2",
        "ofPane 5 5 = 3", "ofPane 5 7 = 0", "isKin 5 0 = 1", "isKin 5 4 = 1");
    Script.play("4 twin shares the values and no more",
        "twin 5 4 = 8", "put 5 3 = 1", "at 4 0 = 3", "ofPane 4 0 = 0", "mark 5 = 1",
        "ofPane 4 4 = -1", "end 5 2 = 8", "ofPane 4 1 = 8");
    Script.play("4 twin of a reader, of none, of itself",
        "reader 1 0 = 16", "twin 2 1 = 16", "ofPane 2 7 = 1", "put 2 1 = -9 READER",
        "twin 2 0 = 16", "ofPane 2 7 = 0", "go 0 4 = 0", "mark 0 = 4", "go 0 6 = 4",
        "twin 0 0 = 10", "ofPane 0 4 = 4", "ofPane 0 0 = 6", "house 0 = 7");
    Script.play("4 twin of what is not there",
        "twin 0 6" + NO_PANE, "twin 6 0" + NO_PANE, "twin -1 -1" + NO_PANE, "twin 0 -1" + NO_PANE,
        "twin -2147483648 2147483647" + NO_PANE);
  }

  private static void promise5() {
    Script.play("5 rest",
        "fill 0 1 1 16 = 16", "end 0 12 = 16", "go 0 3 = 12", "mark 0 = 3", "go 0 5 = 3",
        "rest 4 0 = 7", "whole 4 = >6 7 8 9 10 11 12 <", "ofPane 4 5 = 5", "ofPane 4 4 = -1",
        "go 4 2 = 0", "rest 5 4 = 5", "ofPane 5 5 = 7", "whole 5 = >8 9 10 11 12 <",
        "isKin 5 0 = 1", "whole 0 = 1 2 3 |4 5 >6 7 8 9 10 11 12 <13 14 15 16 ");
    Script.play("5 rest of itself, as it is ahead of that",
        "fill 0 1 1 16 = 16", "end 0 12 = 16", "go 0 3 = 12", "mark 0 = 3", "rest 0 0 = 9",
        "whole 0 = >4 5 6 7 8 9 10 11 12 <", "ofPane 0 5 = 3", "go 0 2 = 0", "rest 0 0 = 7",
        "ofPane 0 5 = 5", "ofPane 0 4 = -1", "putAt 0 0 60 = 6", "at 1 5 = 60");
    Script.play("5 rest of a reader, of nothing",
        "reader 1 0 = 16", "go 1 9 = 0", "rest 2 1 = 7", "ofPane 2 7 = 1", "put 2 1 = -9 READER",
        "rest 2 0 = 16", "ofPane 2 7 = 0", "go 0 16 = 0", "rest 3 0 = 0", "whole 3 = ><",
        "ofPane 3 5 = 16", "rest 3 3 = 0", "ofPane 3 5 = 16", "isKin 3 0 = 1");
    Script.play("5 rest of what is not there",
        "rest 0 6" + NO_PANE, "rest 6 0" + NO_PANE, "rest -1 0" + NO_PANE, "rest 0 -1" + NO_PANE);
  }

  private static void promise6() {
    Script.play("6 part",
        "fill 0 1 1 16 = 16", "end 0 12 = 16", "go 0 5 = 12", "mark 0 = 5", "part 4 0 3 4 = 4",
        "whole 4 = >4 5 6 7 <", "ofPane 4 5 = 3", "part 5 4 1 2 = 2", "ofPane 5 5 = 4",
        "whole 5 = >5 6 <", "isKin 5 0 = 1", "putAt 5 1 66 = 6", "at 0 5 = 66");
    Script.play("6 part of itself, as it is ahead of that",
        "fill 4 1 1 8 = 8", "go 4 2 = 8", "mark 4 = 2", "part 4 4 3 4 = 4", "ofPane 4 5 = 3",
        "whole 4 = >4 5 6 7 <", "part 4 4 2 2 = 2", "ofPane 4 5 = 5", "whole 4 = >6 7 <");
    Script.play("6 part at the edges",
        "end 0 10 = 16", "part 1 0 0 10 = 10", "part 1 0 10 0 = 0", "ofPane 1 5 = 10",
        "whole 1 = ><", "part 1 0 9 1 = 1", "part 1 0 0 0 = 0", "ofPane 1 5 = 0");
    Script.play("6 part of a reader",
        "reader 1 0 = 16", "part 2 1 4 4 = 4", "ofPane 2 7 = 1", "putAt 2 0 1 = -9 READER",
        "part 2 0 4 4 = 4", "ofPane 2 7 = 0");
    Script.play("6 part that is refused",
        "end 0 10 = 16", "part 1 0 11 0 = -9 BEYOND", "part 1 0 -1 0 = -9 BEYOND",
        "part 1 0 0 11 = -9 BEYOND", "part 1 0 0 -1 = -9 BEYOND", "part 1 0 4 7 = -9 BEYOND",
        "part 1 0 10 1 = -9 BEYOND", "part 1 0 2147483647 1 = -9 BEYOND",
        "part 1 0 1 2147483647 = -9 BEYOND", "part 1 0 -2147483648 1 = -9 BEYOND",
        "part 1 0 1 -2147483648 = -9 BEYOND", "house 5 = 10", "house 0 = 1",
        "whole 1 = " + LONG_NEW);
    Script.play("6 part of what is not there",
        "part 0 6 99 0" + NO_PANE, "part 6 0 0 0" + NO_PANE, "part -1 0 0 -1" + NO_PANE,
        "part 0 -1 0 0" + NO_PANE, "house 5 = 0");
  }

  private static void promise7() {
    Script.play("7 reader is a twin in all else",
        "part 4 0 3 9 = 9", "end 4 7 = 9", "go 4 2 = 0", "mark 4 = 2", "go 4 5 = 2",
        "reader 5 4 = 2", "whole 5 = 0 0 |0 0 0 >0 0 <0 0 ", "ofPane 5 7 = 1", "ofPane 5 8 = 0",
        "ofPane 5 5 = -9", "ofPane 4 7 = 0", "back 5 = 3", "ofPane 4 0 = 5", "lay 5 8 = 0",
        "peek 5 = 8", "house 7 = 1", "house 8 = 2");
    Script.play("7 reader of itself, of a reader",
        "go 0 4 = 0", "mark 0 = 4", "reader 0 0 = 12", "ofPane 0 7 = 1", "ofPane 0 4 = 4",
        "put 0 1 = -9 READER", "reader 1 0 = 12", "ofPane 1 7 = 1", "reader 0 0 = 12",
        "house 7 = 2");
    Script.play("7 reader writes nothing",
        "reader 0 0 = 16", "put 0 1 = -9 READER", "putAt 0 0 1 = -9 READER",
        "bring 0 0 1 0 = -9 READER", "fill 0 1 1 1 = 0 READER", "pack 0 = -9 READER",
        "pour 1 0 1 = 0 READER", "reach 0 0 1 = -9 READER", "house 4 = 7");
    Script.play("7 reader of what is not there",
        "reader 0 6" + NO_PANE, "reader 6 0" + NO_PANE, "reader -1 0" + NO_PANE,
        "reader 0 -1" + NO_PANE);
  }

  private static void promise8() {
    Script.play("8 exchange",
        "go 0 4 = 0", "mark 0 = 4", "end 4 7 = 8", "go 4 6 = 0", "put 4 3 = 7",
        "exchange 0 4 = 7", "whole 0 = 0 0 0 0 0 0 3 ><0 ", "ofPane 4 0 = 4", "ofPane 4 4 = 4",
        "ofPane 4 2 = 16", "isKin 4 1 = 1", "isKin 0 1 = 0", "exchange 0 4 = 4",
        "ofPane 0 4 = 4");
    Script.play("8 exchange with a reader, with itself",
        "reader 0 0 = 16", "go 0 2 = 0", "exchange 0 1 = 0", "ofPane 0 7 = 0", "ofPane 1 7 = 1",
        "exchange 1 1 = 2", "ofPane 1 7 = 1", "ofPane 1 0 = 2", "house 0 = 4");
    Script.play("8 the exchanged ones go their own ways",
        "exchange 4 5 = 0", "put 4 1 = 1", "put 5 2 = 1", "put 5 3 = 2", "exchange 4 5 = 2",
        "text 4 = 0 0 0 0 0 0", "at 4 0 = 2", "at 5 0 = 1");
    Script.play("8 exchange of what is not there",
        "exchange 0 6" + NO_PANE, "exchange 6 0" + NO_PANE, "exchange -1 0" + NO_PANE,
        "exchange 0 -1" + NO_PANE, "exchange 6 6" + NO_PANE);
  }
}
