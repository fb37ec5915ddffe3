/**
 * What the document says ahead of its numbered promises: of all calls, of exceptions, of VALUES,
 * ROWS and PANES, of ACTS and of what is REFUSED; each sentence at its boundaries.
 */
public final class TermsTest {
  private static final String NO_PLACE = " = throws IndexOutOfBoundsException";
  private static final String NOT_SO = " = throws IllegalArgumentException";
  private static final int[] NO_PANES = {-2147483648, -2147483647, -1, 6, 7, 2147483647};
  /** P is a PANE; the answer is that over a new LONG ROW, beside PANE 1. */
  private static final String[] CALLS_OF_PANES = {
    "wrap P 2 3 = 5", "fresh P 3 = 3", "twin P 1 = 16", "twin 1 P = 16", "rest P 1 = 16",
    "rest 1 P = 16", "part P 1 2 3 = 3", "part 1 P 2 3 = 3", "reader P 1 = 16", "reader 1 P = 16",
    "exchange P 1 = 0", "exchange 1 P = 0", "go P 3 = 0", "move P 3 = 3", "end P 3 = 16",
    "stretch P -3 = 13", "mark P = 0", "back P = -9 NO MARK", "clear P = 16", "flip P = 0",
    "rewind P = 16", "put P 3 = 1", "putAt P 3 3 = 0", "bring P 3 1 3 = 0", "bring 1 3 P 3 = 0",
    "fill P 3 3 3 = 3", "pack P = 16", "pour P 1 3 = 3", "pour 1 P 3 = 3", "reach P 3 3 = 0",
    "get P = 0", "drain P 3 = 3", "pop P = -9 BEYOND", "ofPane P 3 = 16", "at P 3 = 0",
    "peek P = 0", "total P = 0", "text P = 0 0 0 0 0 0 0 0 0 0 0 0 0 0 0 0",
    "whole P = >0 0 0 0 0 0 0 0 0 0 0 0 0 0 0 0 <", "isKin P 1 = 1", "isKin 1 P = 1",
    "sees P 3 1 = 3", "sees 1 3 P = 3", "would P 2 = 16"};

  public static void main(String[] args) {
    numberOfAPane();
    theExceptionNamedFirst();
    exceptionsAheadOfRefused();
    whatIsThrownChangesNothing();
    values();
    startBehindTheLastPlace();
    noMarkAsItIsMade();
    actsThatChangeNothing();
    noActs();
    moved();
    takenAndPut();
    kindNamedFirst();
    callsOfOneObject();
    twoObjects();
    Script.end();
  }

  private static void numberOfAPane() {
    for (String call : CALLS_OF_PANES) {
      for (String pane : new String[] {"0", "5"}) {
        Script.play("PANES 0 to 5", "wrap 5 0 16 = 16", call.replace(" P", " " + pane));
      }
      for (int pane : NO_PANES) {
        String name = call.substring(0, call.indexOf(" = ")).replace(" P", " " + pane);
        Script.play("PANES 0 to 5", name + NO_PLACE);
      }
    }
    for (String call : new String[] {"twin P P", "rest P P", "part P P 0 0", "reader P P",
        "exchange P P", "bring P 0 P 0", "pour P P 0", "isKin P P", "sees P 0 P"}) {
      for (int pane : NO_PANES) {
        Script.play("PANES 0 to 5, both", call.replace(" P", " " + pane) + NO_PLACE);
      }
    }
  }

  private static void theExceptionNamedFirst() {
    for (String call : new String[] {"wrap P 17 0", "wrap P -1 0", "wrap P 0 17", "wrap P 0 -1",
        "fresh P 13", "fresh P -1", "move P 21", "move P -21", "stretch P 21", "stretch P -21",
        "put P -1", "putAt P 0 -1", "fill P -1 0 0", "fill P 1000001 0 0", "fill P 0 -1 0",
        "fill P 0 1000001 0", "fill P 0 0 -1", "fill P 0 0 21", "pour P 0 -1", "pour P 0 21",
        "pour 0 P -1", "pour 0 P 21", "reach P 0 -1", "drain P -1", "drain P 21", "ofPane P -1",
        "ofPane P 10", "would P -1", "would P 4"}) {
      Script.play("the exception named first", call.replace(" P", " -1") + NO_PLACE,
          call.replace(" P", " 6") + NO_PLACE);
    }
    Script.play("the exception named first, of a place", "lay -1 -1" + NO_PLACE,
        "lay 16 -1" + NO_PLACE, "lay 15 -1" + NOT_SO);
  }

  private static void exceptionsAheadOfRefused() {
    String[] fullReader = {"go 4 8 = 0", "mark 4 = 8", "reader 4 4 = 0", "end 5 0 = 8"};
    Script.playEach("exceptions ahead of REFUSED", fullReader,
        "put 4 -1" + NOT_SO, "put 5 -1" + NOT_SO, "putAt 4 8 -1" + NOT_SO, "putAt 4 0 -1" + NOT_SO,
        "putAt 5 0 -1" + NOT_SO, "reach 4 0 -1" + NOT_SO, "reach 4 8 -1" + NOT_SO,
        "reach 5 -1 -1" + NOT_SO, "fill 4 -1 0 1" + NOT_SO, "fill 4 0 -1 1" + NOT_SO,
        "fill 4 0 0 21" + NOT_SO, "fill 5 1000001 0 1" + NOT_SO, "pour 0 4 21" + NOT_SO,
        "pour 0 5 -1" + NOT_SO, "pour 5 4 21" + NOT_SO, "drain 4 21" + NOT_SO,
        "drain 5 -1" + NOT_SO, "move 4 21" + NOT_SO, "move 5 -21" + NOT_SO,
        "stretch 4 21" + NOT_SO, "stretch 5 -21" + NOT_SO);
    Script.playEach("no such PANE ahead of REFUSED", fullReader,
        "part 6 0 17 0" + NO_PLACE, "part 0 6 0 -1" + NO_PLACE, "part -1 4 9 0" + NO_PLACE,
        "go 6 17" + NO_PLACE, "end -1 17" + NO_PLACE, "bring 4 0 6 0" + NO_PLACE,
        "bring 4 8 -1 0" + NO_PLACE, "bring 6 0 4 8" + NO_PLACE, "pour 0 6 1" + NO_PLACE,
        "pour 5 6 1" + NO_PLACE, "pour 6 4 1" + NO_PLACE, "reader 4 6" + NO_PLACE);
  }

  private static void whatIsThrownChangesNothing() {
    String[] ahead = {"fill 4 1 1 8 = 8", "go 4 2 = 8", "mark 4 = 2", "go 4 5 = 2", "end 4 7 = 8"};
    for (String call : new String[] {"wrap 4 17 0" + NOT_SO, "wrap 4 2 15" + NOT_SO,
        "fresh 4 13" + NOT_SO, "twin 4 6" + NO_PLACE, "twin 6 4" + NO_PLACE, "rest 4 6" + NO_PLACE,
        "part 4 6 0 0" + NO_PLACE, "reader 4 6" + NO_PLACE, "reader 6 4" + NO_PLACE,
        "exchange 4 6" + NO_PLACE, "exchange 6 4" + NO_PLACE, "move 4 21" + NOT_SO,
        "stretch 4 -21" + NOT_SO, "put 4 -1" + NOT_SO, "putAt 4 0 -1" + NOT_SO,
        "bring 4 0 6 0" + NO_PLACE, "fill 4 9 1000001 2" + NOT_SO, "fill 4 9 9 21" + NOT_SO,
        "pour 4 5 21" + NOT_SO, "pour 4 6 2" + NO_PLACE, "reach 4 7 -1" + NOT_SO,
        "drain 4 21" + NOT_SO, "lay 16 1" + NO_PLACE, "lay 0 -1" + NOT_SO}) {
      Script.playBehind("what is thrown changes nothing: " + call, ahead, call,
          "whole 4 = 1 2 |3 4 5 >6 7 <8 ", "get 4 = 6", "back 4 = 4",
          "house 0 = 7", "house 7 = 0", "ofPane 5 0 = 0", "total 5 = 0", "total 0 = 0");
    }
  }

  private static void values() {
    Script.play("a VALUE is not below 0",
        "put 4 0 = 1", "putAt 4 0 0 = 0", "reach 4 0 0 = 0", "lay 0 0 = 0",
        "put 4 2147483647 = 2", "putAt 4 2 2147483647 = 0", "reach 4 3 2147483647 = 0",
        "lay 1 2147483647 = 0", "at 4 1 = 2147483647", "at 4 2 = 2147483647",
        "at 4 3 = 2147483647", "at 0 1 = 2147483647", "putAt 4 1 0 = 2147483647",
        "reach 4 2 0 = 2147483647", "lay 1 0 = 2147483647");
    for (String value : new String[] {"-1", "-2147483648", "-2147483647", "-9"}) {
      Script.play("a VALUE is not below 0", "put 4 " + value + NOT_SO,
          "putAt 4 0 " + value + NOT_SO, "reach 4 0 " + value + NOT_SO, "lay 0 " + value + NOT_SO,
          "total 4 = 0", "total 0 = 0");
    }
  }

  private static void startBehindTheLastPlace() {
    Script.play("START is at most the place behind the last one",
        "part 1 0 16 0 = 0", "ofPane 1 5 = 16", "part 2 0 15 1 = 1", "ofPane 2 5 = 15",
        "go 2 1 = 0", "rest 3 2 = 0", "ofPane 3 5 = 16", "go 4 8 = 0", "rest 5 4 = 0",
        "ofPane 5 5 = 8", "part 4 4 8 0 = 0", "ofPane 4 5 = 8", "fresh 4 12 = 12",
        "part 4 4 12 0 = 0", "ofPane 4 5 = 12", "rest 4 4 = 0", "ofPane 4 5 = 12");
    Script.play("INDEX 0 is the place START, the last INDEX is CAPACITY - 1",
        "fill 0 1 1 16 = 16", "clear 0 = 16", "part 1 0 15 1 = 1", "at 1 0 = 16", "at 1 1 = -9",
        "part 1 0 0 1 = 1", "at 1 0 = 1", "at 1 1 = -9", "part 1 0 5 6 = 6", "part 1 1 5 1 = 1",
        "at 1 0 = 11", "putAt 1 0 99 = 11", "at 0 10 = 99", "lay 10 98 = 99", "peek 1 = 98");
  }

  private static void noMarkAsItIsMade() {
    String[] marked = {"go 1 2 = 0", "mark 1 = 2", "go 4 3 = 0", "mark 4 = 3"};
    for (String call : new String[] {"wrap 4 0 16 = 16", "wrap 4 3 1 = 4", "fresh 4 8 = 8",
        "fresh 4 0 = 0", "rest 4 1 = 14", "rest 4 4 = 5", "part 4 1 0 16 = 16", "part 4 4 0 8 = 8",
        "part 4 4 8 0 = 0"}) {
      Script.playBehind("no MARK as it is made: " + call, marked, call,
          "ofPane 4 4 = -1", "back 4 = -9 NO MARK", "ofPane 1 4 = 2", "house 8 = 1");
    }
  }

  private static void actsThatChangeNothing() {
    String[] half = {"fresh 1 0 = 0", "mark 1 = 0", "go 0 8 = 0"};
    Script.playEach("an ACT also if all is as before then", half,
        "wrap 2 0 16 = 16", "twin 2 2 = 16", "twin 3 2 = 16", "rest 2 2 = 16", "part 2 2 0 16 = 16",
        "exchange 2 2 = 0", "exchange 2 3 = 0", "go 0 8 = 8", "move 0 0 = 8", "end 0 16 = 16",
        "stretch 0 0 = 16", "mark 1 = 0", "back 1 = 0", "clear 2 = 16", "flip 3 = 0",
        "rewind 2 = 16", "put 0 0 = 9", "putAt 0 0 0 = 0", "bring 0 0 0 0 = 0",
        "bring 4 3 5 3 = 0", "fill 0 1 1 0 = 0", "pack 0 = 8", "pour 0 4 0 = 0", "pour 1 4 9 = 0",
        "lay 0 0 = 0", "reach 0 15 0 = 0", "drain 0 0 = 0");
    Script.play("an ACT of a READER", "reader 0 0 = 16", "reader 0 0 = 16", "twin 0 0 = 16",
        "exchange 0 0 = 0", "fill 0 1 1 0 = 0", "house 0 = 5");
  }

  private static void noActs() {
    Script.play("no ACT: what is asked, knocked, REFUSED and thrown",
        "ofPane 0 0 = 0", "at 0 0 = 0", "at 0 16 = -9", "peek 0 = 0", "total 4 = 0",
        "text 4 = 0 0 0 0 0 0 0 0", "whole 4 = >0 0 0 0 0 0 0 0 <",
        "row  = 0 0 0 0 0 0 0 0 0 0 0 0 0 0 0 0", "isKin 0 1 = 1", "sees 0 0 1 = 0",
        "would 0 0 = 16", "house 0 = 0", "knock  = 1", "isSound  = true", "back 0 = -9 NO MARK",
        "pop 0 = -9 BEYOND", "put 0 -1" + NOT_SO, "put 6 1" + NO_PLACE, "house 0 = 0",
        "house 6 = 1", "mark 0 = 0", "house 0 = 1");
  }

  private static void moved() {
    String[] marked = {"fill 4 1 1 8 = 8", "go 4 3 = 8", "mark 4 = 3", "go 4 4 = 3"};
    for (String call : new String[] {"go 4 3 = 4", "move 4 -1 = 3", "pop 4 = 4", "back 4 = 1",
        "end 4 3 = 8", "stretch 4 -5 = 3"}) {
      Script.playBehind("a MARK at POSITION stays: " + call, marked, call,
          "ofPane 4 0 = 3", "ofPane 4 4 = 3", "back 4 = 0", "house 8 = 1");
    }
    marked[3] = "go 4 3 = 3";
    for (String call : new String[] {"go 4 2 = 3", "move 4 -1 = 2", "pop 4 = 3", "end 4 2 = 8",
        "stretch 4 -6 = 2"}) {
      Script.playBehind("a MARK above POSITION is gone: " + call, marked, call,
          "ofPane 4 0 = 2", "ofPane 4 4 = -1", "back 4 = -9 NO MARK",
          "house 8 = 0");
    }
    for (String call : new String[] {"go 4 8 = 3", "move 4 5 = 8"}) {
      Script.playBehind("a MARK below POSITION stays: " + call, marked, call,
          "ofPane 4 0 = 8", "ofPane 4 4 = 3", "back 4 = 5");
    }
    Script.play("a MARK that is gone does not come again", "go 4 3 = 0", "mark 4 = 3",
        "go 4 2 = 3", "go 4 5 = 2", "ofPane 4 4 = -1", "back 4 = -9 NO MARK");
  }

  private static void takenAndPut() {
    for (String call : new String[] {"get 4 = 8", "drain 4 1 = 1", "pour 4 5 1 = 1", "put 4 9 = 8",
        "fill 4 9 9 1 = 1", "pour 5 4 1 = 1"}) {
      Script.play("with 1 LEFT it is TAKEN or PUT, the MARK stays: " + call, "fill 4 1 1 8 = 8",
          "go 4 7 = 8", "mark 4 = 7", call, "ofPane 4 0 = 8", "ofPane 4 3 = 0", "ofPane 4 4 = 7",
          "back 4 = 1");
    }
    String[] nothing = {"fill 4 1 1 8 = 8", "go 4 7 = 8", "end 4 7 = 8", "mark 4 = 7"};
    Script.playEach("with nothing LEFT it is not, and the MARK stays", nothing,
        "get 4 = -9 EMPTY", "drain 4 1 = 0 EMPTY", "put 4 9 = -9 FULL", "fill 4 9 9 1 = 0 FULL",
        "pour 5 4 1 = 0 FULL", "pour 4 5 1 = 0", "peek 4 = -9", "whole 4 = 1 2 3 4 5 6 7 |><8 ");
    Script.play("a VALUE that is TAKEN stays where it is", "lay 0 7 = 0", "get 0 = 7",
        "at 0 0 = 7", "drain 1 1 = 1", "at 1 0 = 7", "pour 2 4 1 = 1", "at 2 0 = 7",
        "at 4 0 = 7");
  }

  private static void kindNamedFirst() {
    String[] fullReader = {"go 4 8 = 0", "reader 4 4 = 0", "end 5 3 = 8", "go 5 3 = 0"};
    Script.playEach("the KIND named first", fullReader,
        "put 4 1 = -9 READER", "put 5 1 = -9 FULL", "putAt 4 8 1 = -9 BEYOND",
        "putAt 4 7 1 = -9 READER", "bring 4 8 5 0 = -9 BEYOND", "bring 4 0 5 3 = -9 BEYOND",
        "bring 4 0 5 2 = -9 READER", "bring 5 0 4 7 = 0", "fill 4 1 1 1 = 0 READER",
        "fill 5 1 1 1 = 0 FULL", "pour 0 4 1 = 0 READER", "pour 0 5 1 = 0 FULL",
        "reach 4 8 1 = -9 READER", "reach 5 8 1 = -9 BEYOND", "pack 4 = -9 READER",
        "get 4 = -9 EMPTY", "drain 4 1 = 0 EMPTY", "go 4 9 = -9 BEYOND");
  }

  private static void callsOfOneObject() {
    String[][] many = {{"go 0 0", "0", "0"}, {"put 3 1", "-9", "1"}, {"get 3", "-9", "2"},
        {"back 0", "-9", "3"}, {"pack 5", "-9", "4"}, {"pop 0", "-9", "5"}};
    for (String[] call : many) {
      Manypanes x = new Manypanes();
      x.end(3, 0);
      x.reader(5, 5);
      for (int i = 0; i < 508; i++) {
        String told = Calls.tell(x, call[0]);
        if (!told.equals(call[1])) {
          Script.fault(call[0] + " told " + told + " as call " + (i + 3));
        }
      }
      int due = call[2].equals("0") ? 510 : 508;
      if (x.house(Integer.parseInt(call[2])) != due || !x.isSound()) {
        Script.fault("of 512 calls " + due + " are not counted of " + call[0]);
      }
    }
    Manypanes x = new Manypanes();
    for (int i = 1; i <= 512; i++) {
      if (x.knock() != i) {
        Script.fault("knock " + i + " is told as another one");
      }
    }
  }

  private static void twoObjects() {
    Manypanes one = new Manypanes();
    Manypanes other = new Manypanes();
    long before = other.digest();
    for (String call : new String[] {"fill 0 1 1 16", "put 4 7", "mark 1", "knock", "reader 2 2",
        "fresh 5 3", "back 3", "lay 3 9", "exchange 0 4"}) {
      Calls.tell(one, call);
    }
    if (other.digest() != before || one.digest() == before) {
      Script.fault("an object tells of what was done to another one");
    }
  }
}
