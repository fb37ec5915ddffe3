/** Promises 29 to 42: the sections "asked" and "the whole". */
public final class AskedTest {
  private static final String NO_PANE = " = throws IndexOutOfBoundsException";
  private static final String NOT_SO = " = throws IllegalArgumentException";

  public static void main(String[] args) {
    promise29();
    promise30And31();
    promise32And33();
    promise34();
    promise35();
    promise36();
    promise37();
    promise38();
    promise39();
    promise40();
    promise41();
    promise42();
    Script.end();
  }

  private static void promise29() {
    Script.play("29 ofPane",
        "part 4 0 3 9 = 9", "end 4 7 = 9", "go 4 2 = 0", "mark 4 = 2", "go 4 5 = 2",
        "ofPane 4 0 = 5", "ofPane 4 1 = 7", "ofPane 4 2 = 9", "ofPane 4 3 = 2", "ofPane 4 4 = 2",
        "ofPane 4 5 = 3", "ofPane 4 6 = 1", "ofPane 4 7 = 0", "ofPane 4 8 = 1", "ofPane 4 9 = 2",
        "go 4 6 = 5", "ofPane 4 3 = 1", "ofPane 4 6 = 1", "go 4 7 = 6", "ofPane 4 3 = 0",
        "ofPane 4 6 = 0");
    Script.play("29 ofPane of a reader",
        "part 4 0 3 9 = 9", "end 4 7 = 9", "reader 4 4 = 7", "ofPane 4 0 = 0", "ofPane 4 1 = 7",
        "ofPane 4 2 = 9", "ofPane 4 3 = 7", "ofPane 4 4 = -1", "ofPane 4 5 = -9", "ofPane 4 6 = 1",
        "ofPane 4 7 = 1", "ofPane 4 8 = 0", "ofPane 4 9 = 2", "house 4 = 0", "house 0 = 3");
    Script.play("29 ofPane of what can't be",
        "ofPane 0 10" + NOT_SO, "ofPane 0 -1" + NOT_SO, "ofPane 0 2147483647" + NOT_SO,
        "ofPane 0 -2147483648" + NOT_SO, "ofPane 6 0" + NO_PANE, "ofPane -1 10" + NO_PANE,
        "ofPane 2147483647 0" + NO_PANE, "ofPane -2147483648 0" + NO_PANE);
  }

  private static void promise30And31() {
    Script.play("30 at",
        "fill 0 1 1 16 = 16", "part 4 0 3 6 = 6", "end 4 4 = 6", "go 4 2 = 0", "at 4 0 = 4",
        "at 4 3 = 7", "at 4 4 = -9", "at 4 5 = -9", "at 4 -1 = -9", "at 4 2147483647 = -9",
        "at 4 -2147483648 = -9", "reader 4 4 = 2", "at 4 3 = 7", "at 4 4 = -9", "house 5 = 0");
    Script.play("30 at of what is not there", "at 6 0" + NO_PANE, "at -1 99" + NO_PANE);
    Script.play("31 peek",
        "fill 0 1 1 16 = 16", "part 4 0 3 6 = 6", "peek 4 = 4", "go 4 5 = 0", "peek 4 = 9",
        "ofPane 4 0 = 5", "go 4 6 = 5", "peek 4 = -9", "peek 0 = -9", "reader 4 4 = 0",
        "peek 4 = -9", "go 4 1 = 6", "peek 4 = 5", "house 2 = 0");
    Script.play("31 peek of what is not there", "peek 6" + NO_PANE, "peek -1" + NO_PANE);
  }

  private static void promise32And33() {
    String most = "fill 0 0 0 16 = 16";
    Script.play("32 total",
        "fill 4 5 5 8 = 8", "total 4 = 0", "go 4 2 = 8", "total 4 = 165", "end 4 4 = 8",
        "total 4 = 35", "mark 4 = 2", "total 5 = 0", "part 5 4 1 2 = 2", "total 5 = 25",
        "reader 5 5 = 2", "total 5 = 25");
    Script.play("32 total of more than 32 bits",
        "put 0 2147483647 = 1", "put 0 2147483647 = 2", "flip 0 = 2", "total 0 = 4294967294",
        "twin 1 0 = 2", "clear 1 = 16", "go 1 2 = 0", "pour 0 1 2 = 2", "rewind 0 = 2",
        "pour 0 1 2 = 2", "rewind 0 = 2", "pour 0 1 2 = 2", "rewind 0 = 2", "pour 0 1 2 = 2",
        "rewind 0 = 2", "pour 0 1 2 = 2", "rewind 0 = 2", "pour 0 1 2 = 2", "rewind 0 = 2",
        "pour 0 1 2 = 2", "rewind 1 = 16", "total 1 = 34359738352");
    Script.play("32 total with noughts inside", most, "clear 0 = 16", "total 0 = 0",
        "lay 0 1000000 = 0", "total 0 = 1000000", "lay 1 40 = 0", "total 0 = 1000040");
    Script.play("32 total of what is not there", "total 6" + NO_PANE, "total -1" + NO_PANE);
    Script.play("33 text",
        "fill 4 5 5 8 = 8", "text 4 = ", "go 4 2 = 8", "text 4 = 15 20 25 30 35 40",
        "end 4 4 = 8", "text 4 = 15 20", "go 4 3 = 2", "text 4 = 20", "part 5 4 1 2 = 2",
        "text 5 = 10 15", "reader 5 5 = 2", "text 5 = 10 15", "fresh 0 0 = 0", "text 0 = ");
    Script.play("33 text of what is not there", "text 6" + NO_PANE, "text -1" + NO_PANE);
  }

  private static void promise34() {
    Script.play("34 whole: the signs and their sequence",
        "fill 4 1 1 8 = 8", "whole 4 = 1 2 3 4 5 6 7 8 ><", "mark 4 = 8",
        "whole 4 = 1 2 3 4 5 6 7 8 |><", "clear 4 = 8", "mark 4 = 0",
        "whole 4 = |>1 2 3 4 5 6 7 8 <", "go 4 3 = 0", "whole 4 = |1 2 3 >4 5 6 7 8 <",
        "end 4 5 = 8", "whole 4 = |1 2 3 >4 5 <6 7 8 ", "mark 4 = 3",
        "whole 4 = 1 2 3 |>4 5 <6 7 8 ", "end 4 3 = 5", "whole 4 = 1 2 3 |><4 5 6 7 8 ",
        "go 4 2 = 3", "whole 4 = 1 2 >3 <4 5 6 7 8 ", "go 4 3 = 2",
        "whole 4 = 1 2 3 ><4 5 6 7 8 ");
    Script.play("34 whole of a part, a reader, nothing",
        "fill 0 10 10 16 = 16", "part 4 0 3 3 = 3", "whole 4 = >40 50 60 <", "reader 4 4 = 3",
        "end 4 1 = 3", "whole 4 = >40 <50 60 ", "fresh 5 0 = 0", "whole 5 = ><", "mark 5 = 0",
        "whole 5 = |><");
    Script.play("34 whole of what is not there", "whole 6" + NO_PANE, "whole -1" + NO_PANE);
  }

  private static void promise35() {
    Script.play("35 row",
        "row  = 0 0 0 0 0 0 0 0 0 0 0 0 0 0 0 0", "fill 0 2147483640 0 1"
        + NOT_SO, "lay 0 2147483647 = 0", "lay 15 10 = 0", "put 4 5 = 1", "end 0 3 = 16",
        "go 0 2 = 0", "row  = 2147483647 0 0 0 0 0 0 0 0 0 0 0 0 0 0 10");
  }

  private static void promise36() {
    Script.play("36 isKin",
        "isKin 0 1 = 1", "isKin 0 4 = 0", "isKin 4 4 = 1", "part 5 0 0 3 = 3",
        "part 4 0 9 3 = 3", "isKin 4 5 = 1", "fresh 4 3 = 3", "fresh 5 3 = 3", "isKin 4 5 = 0",
        "twin 5 4 = 3", "isKin 4 5 = 1", "isKin 5 4 = 1", "fresh 0 0 = 0", "fresh 1 0 = 0",
        "isKin 0 1 = 0", "rest 1 0 = 0", "isKin 0 1 = 1");
    Script.play("36 isKin of a reader",
        "reader 1 0 = 16", "isKin 0 1 = -9", "isKin 1 0 = -9", "isKin 1 1 = -9", "isKin 1 4 = -9",
        "house 4 = 0");
    Script.play("36 isKin of what is not there",
        "isKin 0 6" + NO_PANE, "isKin 6 0" + NO_PANE, "isKin -1 0" + NO_PANE,
        "isKin 0 -1" + NO_PANE);
  }

  private static void promise37() {
    Script.play("37 sees",
        "part 1 0 3 5 = 5", "part 2 0 6 6 = 6", "sees 1 0 0 = 3", "sees 1 4 0 = 7",
        "sees 0 3 1 = 0", "sees 0 7 1 = 4", "sees 0 8 1 = -1", "sees 0 2 1 = -1",
        "sees 1 3 2 = 0", "sees 1 4 2 = 1", "sees 1 2 2 = -1", "sees 2 1 1 = 4",
        "sees 2 2 1 = -1", "sees 2 3 2 = 3", "sees 1 0 4 = -1", "sees 4 0 5 = -1");
    Script.play("37 sees also at or behind the limit",
        "end 0 4 = 16", "end 1 2 = 16", "sees 0 9 1 = 9", "sees 0 4 1 = 4", "sees 0 15 1 = 15");
    Script.play("37 sees of no index",
        "sees 0 16 1 = -1", "sees 0 -1 1 = -1", "part 1 0 3 5 = 5", "sees 1 5 0 = -1",
        "sees 1 -1 0 = -1", "sees 1 2147483647 0 = -1", "sees 0 2147483647 1 = -1",
        "sees 0 -2147483648 1 = -1", "sees 1 -2147483648 0 = -1", "fresh 4 0 = 0",
        "sees 4 0 4 = -1", "house 5 = 0");
    Script.play("37 sees of a reader, ahead of all else",
        "reader 1 0 = 16", "sees 0 0 1 = -9", "sees 1 0 0 = -9", "sees 1 99 1 = -9",
        "sees 4 99 1 = -9", "house 4 = 0");
    Script.play("37 sees of what is not there",
        "sees 0 0 6" + NO_PANE, "sees 6 0 0" + NO_PANE, "sees -1 99 0" + NO_PANE,
        "sees 0 99 -1" + NO_PANE);
  }

  private static void promise38() {
    Script.play("38 would",
        "part 4 0 3 9 = 9", "end 4 7 = 9", "go 4 2 = 0", "mark 4 = 2", "go 4 5 = 2",
        "would 4 0 = 9", "would 4 1 = 5", "would 4 2 = 7", "would 4 3 = 5", "reader 4 4 = 2",
        "would 4 0 = 9", "would 4 3 = 5", "back 4 = 3", "ofPane 4 3 = 5", "rewind 4 = 7",
        "would 4 3 = -9", "would 0 3 = -9", "house 3 = 0");
    Script.play("38 would of what can't be",
        "would 0 4" + NOT_SO, "would 0 -1" + NOT_SO, "would 6 4" + NO_PANE,
        "would -1 0" + NO_PANE);
  }

  private static void promise39() {
    Script.play("39 house",
        "put 0 1 = 1", "go 0 16 = 1", "put 0 1 = -9 FULL", "get 0 = -9 EMPTY", "get 0 = -9 EMPTY",
        "back 0 = -9 NO MARK", "back 0 = -9 NO MARK", "back 0 = -9 NO MARK", "reader 1 1 = 16",
        "put 1 1 = -9 READER", "pack 1 = -9 READER", "reach 1 0 0 = -9 READER",
        "putAt 1 0 0 = -9 READER", "go 0 17 = -9 BEYOND", "end 0 17 = -9 BEYOND",
        "part 0 0 17 0 = -9 BEYOND", "pop 4 = -9 BEYOND", "bring 0 16 0 0 = -9 BEYOND",
        "mark 0 = 16", "mark 1 = 0", "house 0 = 5", "house 1 = 1", "house 2 = 2", "house 3 = 3",
        "house 4 = 4", "house 5 = 5", "house 6 = 0", "house 7 = 1", "house 8 = 2", "knock  = 1",
        "house 6 = 1", "house 0 = 5");
    Script.play("39 house of what is thrown and asked",
        "put 6 0" + NO_PANE, "put 0 -1" + NOT_SO, "at 0 99 = -9", "would 0 3 = -9",
        "house 0 = 0", "house 3 = 0", "house 5 = 0");
    Script.play("39 house of what can't be",
        "house 9" + NOT_SO, "house -1" + NOT_SO, "house 2147483647" + NOT_SO,
        "house -2147483648" + NOT_SO);
  }

  private static void promise40() {
    Script.play("40 knock", "knock  = 1", "knock  = 2", "house 6 = 2", "knock  = 3",
        "house 6 = 3", "house 0 = 0");
  }

  private static void promise41() {
    Script.play("41 isSound",
        "isSound  = true", "part 1 0 3 5 = 5", "rest 2 1 = 5", "reader 3 2 = 5", "go 3 2 = 0",
        "mark 3 = 2", "rest 4 3 = 3", "fresh 5 0 = 0", "mark 5 = 0", "fill 1 1 1 5 = 5",
        "pack 1 = 0", "isSound  = true", "house 7 = 2", "house 8 = 2");
  }

  /** The sums are those that BufferModel tells, and that the shared tests' runs bear out. */
  private static void promise42() {
    Script.play("42 digest of a new object", "digest  = " + new BufferModel().digest());
    BufferModel model = new BufferModel();
    model.fill(0, 3, 3, 10);
    model.reader(3, 0);
    model.part(1, 0, 2, 5);
    model.mark(1);
    model.knock();
    model.back(4);
    Script.play("42 digest", "fill 0 3 3 10 = 10", "reader 3 0 = 6", "part 1 0 2 5 = 5",
        "mark 1 = 0", "knock  = 1", "back 4 = -9 NO MARK", "digest  = " + model.digest(),
        "digest  = " + model.digest());
    promise42OfTheLastAndTheFirst();
  }

  private static void promise42OfTheLastAndTheFirst() {
    BufferModel model = new BufferModel();
    model.part(5, 3, 6, 4);
    model.part(0, 3, 2, 9);
    model.part(4, 3, 5, 9);
    Script.play("42 digest of pane 5 with pane 0", "part 5 3 6 4 = 4", "part 0 3 2 9 = 9",
        "part 4 3 5 9 = 9", "sees 5 0 0 = 4", "digest  = " + model.digest());
  }
}
