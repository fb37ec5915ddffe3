/** Promises 1 to 8, sentence by sentence, at the boundaries that MadeTest leaves open. */
public final class MadeEdgesTest {
  private static final String NOT_SO = " = throws IllegalArgumentException";
  private static final String NO_PANE = " = throws IndexOutOfBoundsException";
  private static final String LONG_NEW = ">0 0 0 0 0 0 0 0 0 0 0 0 0 0 0 0 <";

  public static void main(String[] args) {
    promise1();
    promise2();
    promise3();
    promise4();
    promise5();
    promise6();
    promise7();
    promise8();
    Script.end();
  }

  private static void promise1() {
    for (int pane = 0; pane <= 5; pane++) {
      int length = pane < 4 ? 16 : 8;
      String of = "ofPane " + pane + " ";
      Script.play("1 all numbers of a new pane", of + "0 = 0", of + "1 = " + length,
          of + "2 = " + length, of + "3 = " + length, of + "4 = -1", of + "5 = 0", of + "6 = 1",
          of + "7 = 0", of + "8 = 1", of + "9 = 0", "total " + pane + " = 0",
          "at " + pane + " " + (length - 1) + " = 0", "at " + pane + " " + length + " = -9");
    }
    Script.play("1 a new object is sound", "isSound  = true");
    Script.play("1 PANES 0 to 3 show the same places, 4 and 5 none of each other",
        "lay 15 3 = 0", "at 0 15 = 3", "at 1 15 = 3", "at 2 15 = 3", "at 3 15 = 3",
        "isKin 0 3 = 1", "isKin 0 4 = 0", "isKin 4 5 = 0", "putAt 4 7 2 = 0", "at 5 7 = 0",
        "at 0 7 = 0");
  }

  private static void promise2() {
    Script.play("2 wrap: from 0 to 16, and many 0 to 16 - from, are let",
        "wrap 4 0 0 = 0", "ofPane 4 0 = 0", "ofPane 4 1 = 0", "wrap 4 0 1 = 1", "wrap 4 0 15 = 15",
        "wrap 4 0 16 = 16", "ofPane 4 9 = 0", "wrap 4 1 15 = 16", "ofPane 4 0 = 1",
        "wrap 4 1 0 = 1", "ofPane 4 1 = 1", "wrap 4 8 8 = 16", "wrap 4 15 0 = 15",
        "wrap 4 15 1 = 16", "ofPane 4 3 = 1", "wrap 4 16 0 = 16", "ofPane 4 0 = 16",
        "ofPane 4 2 = 16", "ofPane 4 5 = 0");
    Script.play("2 wrap: from is not -1, 17, or far off",
        "wrap 4 -1 0" + NOT_SO, "wrap 4 -1 17" + NOT_SO, "wrap 4 -1 1" + NOT_SO,
        "wrap 4 17 0" + NOT_SO, "wrap 4 17 -1" + NOT_SO, "wrap 4 -2147483648 0" + NOT_SO,
        "wrap 4 -2147483648 2147483647" + NOT_SO, "wrap 4 2147483647 0" + NOT_SO,
        "wrap 4 2147483647 1" + NOT_SO, "wrap 4 2147483647 -2147483631" + NOT_SO,
        "ofPane 4 2 = 8");
    Script.play("2 wrap: many is not -1, 17 - from, or far off",
        "wrap 4 0 -1" + NOT_SO, "wrap 4 0 17" + NOT_SO, "wrap 4 1 16" + NOT_SO,
        "wrap 4 8 9" + NOT_SO, "wrap 4 15 2" + NOT_SO, "wrap 4 15 -1" + NOT_SO,
        "wrap 4 16 1" + NOT_SO, "wrap 4 16 -1" + NOT_SO, "wrap 4 16 -16" + NOT_SO,
        "wrap 4 0 2147483647" + NOT_SO, "wrap 4 1 2147483647" + NOT_SO,
        "wrap 4 16 2147483647" + NOT_SO, "wrap 4 0 -2147483648" + NOT_SO,
        "wrap 4 16 -2147483648" + NOT_SO, "isKin 4 0 = 0");
    Script.playBehind("2 wrap: of a PANE over the same ROW, the VALUES stay", Script.PART,
        "twin 5 4 = 3", "wrap 4 16 0 = 16",
        "whole 4 = 1 2 3 4 5 6 7 8 9 10 11 12 13 14 15 16 ><", "put 4 1 = -9 FULL",
        "get 4 = -9 EMPTY", "whole 5 = 5 |6 >7 8 9 <10 ", "wrap 4 15 1 = 16", "put 4 99 = 16",
        "put 4 98 = -9 FULL", "at 0 15 = 99");
    Script.play("2 wrap: it is no READER, and writes", "reader 4 4 = 8", "wrap 4 0 1 = 1",
        "ofPane 4 7 = 0", "ofPane 4 8 = 1", "put 4 6 = 1", "put 4 7 = -9 FULL", "at 0 0 = 6",
        "at 0 1 = 0", "reach 4 15 5 = 0", "reach 4 16 5 = -9 BEYOND");
  }

  private static void promise3() {
    Script.play("3 fresh: length is 0 to 12",
        "fresh 0 0 = 0", "fresh 1 1 = 1", "fresh 2 11 = 11", "fresh 3 12 = 12", "ofPane 3 2 = 12",
        "ofPane 3 0 = 0", "ofPane 3 3 = 12", "at 3 11 = 0", "at 3 12 = -9", "isKin 0 1 = 0");
    Script.play("3 fresh: length is not -1, 13, or far off, and the PANE is as it was",
        "put 0 5 = 1", "mark 0 = 1", "fresh 0 -1" + NOT_SO, "fresh 0 13" + NOT_SO,
        "fresh 0 16" + NOT_SO, "fresh 0 2147483647" + NOT_SO, "fresh 0 -2147483648" + NOT_SO,
        "isKin 0 1 = 1", "back 0 = 0", "pop 0 = 5");
    Script.play("3 fresh: all places can be put, and no more",
        "fresh 0 12 = 12", "fill 0 1 1 20 = 12 FULL", "whole 0 = 1 2 3 4 5 6 7 8 9 10 11 12 ><",
        "put 0 1 = -9 FULL", "reach 0 12 1 = -9 BEYOND", "fresh 1 1 = 1", "put 1 8 = 1",
        "put 1 9 = -9 FULL", "whole 1 = 8 ><", "row  = 0 0 0 0 0 0 0 0 0 0 0 0 0 0 0 0");
    Script.play("3 fresh: a ROW is new each time, of the same length too",
        "fresh 0 3 = 3", "fill 0 7 0 3 = 3", "twin 1 0 = 0", "fresh 0 3 = 3", "whole 0 = >0 0 0 <",
        "whole 1 = 7 7 7 ><", "isKin 0 1 = 0", "sees 0 0 1 = -1", "put 0 1 = 1", "at 1 0 = 7",
        "fresh 1 0 = 0", "fresh 2 0 = 0", "isKin 1 2 = 0",
        "twin 2 1 = 0", "isKin 1 2 = 1", "fresh 1 0 = 0", "isKin 1 2 = 0");
    Script.play("3 fresh: PANES over its ROW of before keep that",
        "reader 5 4 = 8", "part 3 4 2 3 = 3", "fresh 4 8 = 8", "put 3 6 = 1", "at 5 2 = 6",
        "at 4 2 = 0", "fresh 3 1 = 1", "at 5 2 = 6");
  }

  private static void promise4() {
    for (String call : new String[] {"twin 1 4 = 3", "twin 4 4 = 3", "reader 1 4 = 3"}) {
      String now = call.startsWith("twin 4") ? "4" : "1";
      Script.playBehind("as the other one in all: " + call, Script.PART, call,
          "whole " + now + " = 5 |6 >7 8 9 <10 ",
          "whole 4 = 5 |6 >7 8 9 <10 ", "ofPane 4 5 = 4", "ofPane 4 7 = 0", "get " + now + " = 7",
          "back " + now + " = 2", "clear " + now + " = 6", "text " + now + " = 5 6 7 8 9 10");
    }
    Script.play("4 twin: nothing LEFT, everything LEFT",
        "go 4 8 = 0", "twin 5 4 = 0", "ofPane 5 0 = 8", "twin 5 0 = 16", "end 0 0 = 16",
        "twin 5 0 = 0", "ofPane 5 2 = 16", "ofPane 5 1 = 0");
    Script.play("4 twin: a PANE with a MARK becomes a twin of one without",
        "go 4 3 = 0", "mark 4 = 3", "twin 4 0 = 16", "ofPane 4 4 = -1", "back 4 = -9 NO MARK",
        "house 8 = 0");
    Script.play("4 twin: with a MARK at 0, which is one", "mark 0 = 0", "twin 4 0 = 16",
        "ofPane 4 4 = 0", "house 8 = 2", "back 4 = 0");
    Script.play("4 twin: a READER becomes none, one that is none a READER",
        "reader 4 4 = 8", "twin 4 5 = 8", "put 4 7 = 1", "at 5 0 = 7", "reader 3 3 = 16",
        "twin 4 3 = 16", "put 4 8 = -9 READER", "house 7 = 2");
  }

  private static void promise5() {
    Script.play("5 rest: everything LEFT", "fill 4 1 1 8 = 8", "rewind 4 = 8", "rest 5 4 = 8",
        "ofPane 5 5 = 0", "whole 5 = >1 2 3 4 5 6 7 8 <", "rest 4 4 = 8", "ofPane 4 5 = 0");
    Script.play("5 rest: one LEFT, nothing LEFT at CAPACITY",
        "fill 4 1 1 8 = 8", "go 4 7 = 8", "rest 5 4 = 1", "ofPane 5 5 = 7", "whole 5 = >8 <",
        "put 5 9 = 1", "put 5 9 = -9 FULL", "at 4 7 = 9", "get 4 = 9", "rest 5 4 = 0",
        "ofPane 5 5 = 8", "ofPane 5 2 = 0", "whole 5 = ><");
    Script.play("5 rest: nothing LEFT below CAPACITY shows no place",
        "fill 4 1 1 8 = 8", "end 4 5 = 8", "rest 5 4 = 0", "ofPane 5 5 = 5", "ofPane 5 2 = 0",
        "end 5 1 = -9 BEYOND", "reach 5 0 1 = -9 BEYOND", "end 4 0 = 5", "rest 4 4 = 0",
        "ofPane 4 5 = 0", "ofPane 4 2 = 0", "clear 4 = 0");
    Script.playBehind("5 rest: CAPACITY is what is LEFT, so LIMIT of the other one bounds it",
        Script.PART, "rest 1 4 = 3", "whole 1 = >7 8 9 <", "ofPane 1 5 = 6",
        "stretch 1 1 = -9 BEYOND", "reach 1 3 1 = -9 BEYOND", "reach 1 2 0 = 9", "at 0 8 = 0",
        "ofPane 4 0 = 2", "ofPane 4 4 = 1");
    Script.playBehind("5 rest: of itself while it is a READER", Script.PART,
        "reader 4 4 = 3", "rest 4 4 = 3", "whole 4 = >7 8 9 <",
        "ofPane 4 7 = 1", "ofPane 4 4 = -1", "put 4 1 = -9 READER");
    Script.play("5 rest: a READER becomes the REST of one that is none",
        "reader 4 4 = 8", "rest 4 5 = 8", "ofPane 4 7 = 0", "put 4 3 = 1", "at 5 0 = 3");
  }

  private static void promise6() {
    Script.playBehind("6 part: index is 0 to LIMIT, many 0 to LIMIT less index", Script.PART,
        "part 1 4 0 0 = 0", "ofPane 1 5 = 4",
        "part 1 4 0 5 = 5", "whole 1 = >5 6 7 8 9 <", "part 1 4 1 4 = 4", "part 1 4 4 1 = 1",
        "whole 1 = >9 <", "part 1 4 4 0 = 0", "ofPane 1 5 = 8", "part 1 4 5 0 = 0",
        "ofPane 1 5 = 9", "whole 1 = ><");
    Script.playEach("6 part: BEYOND", Script.PART,
        "part 1 4 -1 0 = -9 BEYOND", "part 1 4 -1 1 = -9 BEYOND", "part 1 4 -4 3 = -9 BEYOND",
        "part 1 4 6 0 = -9 BEYOND", "part 1 4 6 -1 = -9 BEYOND", "part 1 4 0 -1 = -9 BEYOND",
        "part 1 4 0 6 = -9 BEYOND", "part 1 4 1 5 = -9 BEYOND", "part 1 4 4 2 = -9 BEYOND",
        "part 1 4 4 -1 = -9 BEYOND", "part 1 4 5 1 = -9 BEYOND", "part 1 4 5 -1 = -9 BEYOND",
        "part 1 4 5 -5 = -9 BEYOND", "part 1 4 2147483647 0 = -9 BEYOND",
        "part 1 4 2147483647 -2147483642 = -9 BEYOND", "part 1 4 0 2147483647 = -9 BEYOND",
        "part 1 4 5 2147483647 = -9 BEYOND", "part 1 4 -2147483648 0 = -9 BEYOND",
        "part 1 4 -2147483648 2147483647 = -9 BEYOND",
        "part 1 4 -2147483647 2147483647 = -9 BEYOND", "part 1 4 0 -2147483648 = -9 BEYOND",
        "part 1 4 5 -2147483648 = -9 BEYOND", "part 4 4 6 0 = -9 BEYOND",
        "part 4 4 0 6 = -9 BEYOND");
    Script.playBehind("6 part: refused, of itself, with the same calls behind it", Script.PART,
        "part 4 4 5 1 = -9 BEYOND",
        "whole 4 = 5 |6 >7 8 9 <10 ", "get 4 = 7", "back 4 = 2", "ofPane 4 5 = 4",
        "part 4 4 4 1 = 1", "whole 4 = >9 <", "part 4 4 0 2 = -9 BEYOND", "part 4 4 1 0 = 0",
        "whole 4 = ><", "ofPane 4 5 = 9");
    Script.playBehind("6 part: all of itself", Script.PART,
        "part 4 4 0 5 = 5", "whole 4 = >5 6 7 8 9 <", "ofPane 4 5 = 4", "ofPane 4 2 = 5");
    Script.play("6 part: a READER becomes a part of one that is none, and the other way round",
        "reader 4 4 = 8", "part 4 5 0 8 = 8", "ofPane 4 7 = 0", "put 4 3 = 1", "at 5 0 = 3",
        "reader 5 5 = 8", "part 4 5 0 8 = 8", "ofPane 4 7 = 1", "put 4 4 = -9 READER",
        "part 4 4 8 0 = 0", "ofPane 4 7 = 1");
  }

  private static void promise7() {
    Script.play("7 reader: nothing LEFT, everything LEFT",
        "go 4 8 = 0", "reader 5 4 = 0", "ofPane 5 0 = 8", "ofPane 5 7 = 1", "end 4 0 = 8",
        "reader 5 4 = 0", "ofPane 5 2 = 8", "reader 5 0 = 16", "reader 5 5 = 16");
    Script.play("7 reader: a PANE with a MARK becomes one of another one without",
        "mark 4 = 0", "reader 4 5 = 8", "ofPane 4 4 = -1", "house 8 = 0", "house 7 = 1");
    Script.play("7 reader: only that PANE is one, and it takes what it does not put",
        "reader 1 0 = 16", "ofPane 0 7 = 0", "put 0 5 = 1", "get 1 = 5", "put 0 6 = 2",
        "put 1 7 = -9 READER", "get 1 = 6", "ofPane 0 0 = 2", "house 7 = 1");
    Script.play("7 reader: it moves, and can't pack", "reader 4 4 = 8", "go 4 8 = 0", "pop 4 = 0",
        "end 4 7 = 8", "stretch 4 1 = 8", "mark 4 = 7", "back 4 = 0", "flip 4 = 7", "clear 4 = 8",
        "rewind 4 = 8", "move 4 1 = 1", "drain 4 1 = 1", "pack 4 = -9 READER", "ofPane 4 0 = 2");
  }

  private static void promise8() {
    Script.playBehind("8 exchange: all goes with the number", Script.PART,
        "reader 5 5 = 8", "go 5 8 = 0", "exchange 5 4 = 2",
        "whole 5 = 5 |6 >7 8 9 <10 ", "ofPane 5 5 = 4", "ofPane 5 7 = 0", "ofPane 4 7 = 1",
        "whole 4 = 0 0 0 0 0 0 0 0 ><", "back 4 = -9 NO MARK", "put 4 1 = -9 READER",
        "put 5 77 = 3", "at 0 6 = 77", "exchange 4 5 = 3", "ofPane 4 5 = 4");
    Script.play("8 exchange: it tells POSITION of the one that comes, at both ends",
        "go 0 16 = 0", "exchange 0 5 = 0", "ofPane 0 2 = 8", "exchange 0 5 = 16",
        "exchange 5 0 = 16", "exchange 0 0 = 0", "exchange 5 5 = 16");
    Script.playBehind("8 exchange: with itself it is as before", Script.PART,
        "exchange 4 4 = 2", "whole 4 = 5 |6 >7 8 9 <10 ",
        "ofPane 4 5 = 4", "isKin 4 0 = 1");
    Script.play("8 exchange: a READER that is written below its number then",
        "reader 0 0 = 16", "exchange 0 5 = 0", "put 0 3 = 1", "put 5 3 = -9 READER",
        "fresh 5 2 = 2", "put 5 3 = 1", "whole 1 = " + LONG_NEW, "exchange 0 6" + NO_PANE);
  }
}
