/** Promises 18 to 25, sentence by sentence, at the boundaries that WrittenTest leaves open. */
public final class WrittenEdgesTest {
  private static final String NO_PLACE = " = throws IndexOutOfBoundsException";
  private static final String NOT_SO = " = throws IllegalArgumentException";
  private static final String AS_BEFORE = "whole 4 = 5 |6 >7 8 9 <10 ";
  private static final String ROW_AS_BEFORE = "row  = 1 2 3 4 5 6 7 8 9 10 11 12 13 14 15 16";
  private static final String[] FAR_OFF = {"-2147483648", "-2147483647", "2147483646",
      "2147483647"};

  public static void main(String[] args) {
    promise18();
    promise19();
    promise20Index();
    promise20From();
    promise21Numbers();
    promise21TillRefused();
    promise22();
    promise23Many();
    promise23Ends();
    promise23IntoItself();
    promise24();
    promise25();
    Script.end();
  }

  private static void promise18() {
    Script.playBehind("18 put: the last place below LIMIT, not the one at LIMIT", Script.PART,
        "go 4 4 = 2", "put 4 0 = 5", "put 4 1 = -9 FULL", "whole 4 = 5 |6 7 8 0 ><10 ",
        "put 4 2147483647 = -9 FULL", "back 4 = 4", "stretch 4 1 = 6", "go 4 5 = 1", "put 4 1 = 6",
        "put 4 2 = -9 FULL", "row  = 1 2 3 4 5 6 7 8 0 1 11 12 13 14 15 16");
    Script.play("18 put: nothing LEFT at LIMIT 0", "end 4 0 = 8", "put 4 1 = -9 FULL",
        "at 5 0 = 0", "clear 4 = 8", "whole 4 = >0 0 0 0 0 0 0 0 <");
    Script.playBehind("18 put: READER with something and with nothing LEFT", Script.PART,
        "reader 4 4 = 3", "put 4 1 = -9 READER", AS_BEFORE, "go 4 5 = 2", "put 4 1 = -9 READER",
        "house 1 = 0", "house 4 = 2", ROW_AS_BEFORE);
  }

  private static void promise19() {
    Script.playBehind("19 putAt: 0 to LIMIT - 1, also below POSITION", Script.PART,
        "putAt 4 0 50 = 5", "putAt 4 1 60 = 6", "putAt 4 4 90 = 9", "whole 4 = 50 |60 >7 8 90 <10 ",
        "row  = 1 2 3 4 50 60 7 8 90 10 11 12 13 14 15 16");
    Script.playEach("19 putAt: BEYOND", Script.PART, "putAt 4 5 1 = -9 BEYOND",
        "putAt 4 6 1 = -9 BEYOND", "putAt 4 -1 1 = -9 BEYOND", "putAt 4 -4 1 = -9 BEYOND",
        "putAt 4 11 1 = -9 BEYOND", "putAt 4 12 1 = -9 BEYOND");
    for (String index : FAR_OFF) {
      Script.playBehind("19 putAt: BEYOND, far off", Script.PART,
          "putAt 4 " + index + " 1 = -9 BEYOND", AS_BEFORE, ROW_AS_BEFORE);
    }
    Script.play("19 putAt: LIMIT 0 and LIMIT 1", "end 4 0 = 8", "putAt 4 0 1 = -9 BEYOND",
        "end 4 1 = 0", "putAt 4 0 1 = 0", "putAt 4 1 1 = -9 BEYOND", "putAt 0 15 3 = 0",
        "putAt 0 16 3 = -9 BEYOND");
    Script.playBehind("19 putAt: BEYOND, then READER", Script.PART, "reader 4 4 = 3",
        "putAt 4 -1 1 = -9 BEYOND", "putAt 4 5 1 = -9 BEYOND", "putAt 4 0 1 = -9 READER",
        "putAt 4 4 1 = -9 READER", AS_BEFORE, ROW_AS_BEFORE);
  }

  private static void promise20Index() {
    Script.playBehind("20 bring: index is 0 to LIMIT - 1", Script.PART, "bring 4 0 0 15 = 5",
        "bring 4 4 0 0 = 9", "whole 4 = 16 |6 >7 8 1 <10 ", "bring 4 4 0 0 = 1", "ofPane 0 0 = 0");
    Script.playEach("20 bring: BEYOND by index", Script.PART, "bring 4 5 0 0 = -9 BEYOND",
        "bring 4 6 0 0 = -9 BEYOND", "bring 4 -1 0 0 = -9 BEYOND", "bring 4 -4 0 0 = -9 BEYOND",
        "bring 4 12 0 0 = -9 BEYOND", "bring 4 5 4 0 = -9 BEYOND");
    for (String index : FAR_OFF) {
      Script.playBehind("20 bring: BEYOND, far off", Script.PART,
          "bring 4 " + index + " 0 0 = -9 BEYOND", "bring 0 0 4 " + index + " = -9 BEYOND",
          "bring 4 " + index + " 4 " + index + " = -9 BEYOND", AS_BEFORE, ROW_AS_BEFORE);
    }
    Script.playBehind("20 bring: BEYOND, then READER of the first PANE alone", Script.PART,
        "reader 4 4 = 3", "bring 4 5 0 0 = -9 BEYOND", "bring 4 0 0 16 = -9 BEYOND",
        "bring 4 5 0 16 = -9 BEYOND", "bring 4 4 0 15 = -9 READER", "bring 4 0 4 0 = -9 READER",
        "bring 0 0 4 4 = 1", "at 0 0 = 9", "house 4 = 2", "house 5 = 3");
  }

  private static void promise20From() {
    Script.playBehind("20 bring: from is 0 to LIMIT - 1 of the other one", Script.PART,
        "bring 0 0 4 0 = 1", "bring 0 15 4 4 = 16", "row  = 5 2 3 4 5 6 7 8 9 10 11 12 13 14 15 9",
        "bring 5 7 4 4 = 0", "at 5 7 = 9", "ofPane 5 0 = 0");
    Script.playEach("20 bring: BEYOND by from", Script.PART, "bring 0 0 4 5 = -9 BEYOND",
        "bring 0 0 4 6 = -9 BEYOND", "bring 0 0 4 -1 = -9 BEYOND", "bring 0 0 4 -4 = -9 BEYOND",
        "bring 0 0 4 11 = -9 BEYOND", "bring 0 0 4 12 = -9 BEYOND", "bring 4 0 4 5 = -9 BEYOND",
        "bring 4 0 5 8 = -9 BEYOND", "bring 4 0 0 16 = -9 BEYOND");
    Script.play("20 bring: LIMIT 0 of one, of the other", "end 4 0 = 8",
        "bring 4 0 5 0 = -9 BEYOND", "bring 5 0 4 0 = -9 BEYOND", "bring 4 0 4 0 = -9 BEYOND",
        "end 4 1 = 0", "bring 4 0 5 7 = 0", "bring 5 7 4 0 = 0", "house 0 = 4");
    Script.playBehind("20 bring: onto the place itself", Script.PART, "bring 4 1 4 1 = 6",
        "bring 4 0 0 4 = 5", "bring 0 4 4 0 = 5", AS_BEFORE, ROW_AS_BEFORE);
  }

  private static void promise21Numbers() {
    Script.play("21 fill: first, step and many at their least", "fill 4 0 0 0 = 0",
        "fill 4 0 0 1 = 1", "fill 4 0 1 2 = 2", "whole 4 = 0 0 1 >0 0 0 0 0 <", "fill 4 1 0 2 = 2",
        "whole 4 = 0 0 1 1 1 >0 0 0 <");
    Script.play("21 fill: first, step and many at their most",
        "fill 0 1000000 1000000 20 = 16 FULL", "at 0 0 = 1000000", "at 0 1 = 2000000",
        "at 0 15 = 16000000", "clear 0 = 16", "fill 0 1000000 0 1 = 1", "fill 0 0 1000000 2 = 2",
        "at 0 0 = 1000000", "at 0 1 = 0", "at 0 2 = 1000000", "total 0 = 130000000");
    for (String out : new String[] {"-1", "1000001", "-2147483648", "2147483647"}) {
      Script.playBehind("21 fill: first and step are 0 to 1000000", Script.PART,
          "fill 4 " + out + " 0 1" + NOT_SO, "fill 4 " + out + " 0 0" + NOT_SO,
          "fill 4 0 " + out + " 1" + NOT_SO, "fill 4 0 " + out + " 0" + NOT_SO,
          "fill 4 " + out + " " + out + " " + out + NOT_SO, AS_BEFORE, "fill 4 70 10 1 = 1",
          "whole 4 = 5 |6 70 >8 9 <10 ");
    }
    for (String many : new String[] {"-1", "21", "-2147483648", "2147483647"}) {
      Script.playBehind("21 fill: many is 0 to 20", Script.PART, "fill 4 1 1 " + many + NOT_SO,
          AS_BEFORE, "go 4 5 = 2", "fill 4 1 1 " + many + NOT_SO, "reader 4 4 = 0",
          "fill 4 1 1 " + many + NOT_SO, "house 1 = 0", "house 4 = 0", ROW_AS_BEFORE);
    }
  }

  private static void promise21TillRefused() {
    Script.playBehind("21 fill: as many as LEFT, nothing is REFUSED", Script.PART,
        "fill 4 70 10 3 = 3", "whole 4 = 5 |6 70 80 90 ><10 ", "fill 4 1 1 0 = 0",
        "fill 4 1 1 1 = 0 FULL", "fill 4 1 1 20 = 0 FULL", "house 1 = 2", "back 4 = 4");
    Script.playBehind("21 fill: one more than LEFT, one less than LEFT", Script.PART,
        "fill 4 70 10 4 = 3 FULL", "go 4 2 = 5", "fill 4 7 1 2 = 2", "ofPane 4 0 = 4",
        "whole 4 = 5 |6 7 8 >90 <10 ");
    Script.playBehind("21 fill: a READER, then FULL, counted once a call", Script.PART,
        "reader 4 4 = 3", "fill 4 1 1 0 = 0", "fill 4 1 1 1 = 0 READER", "fill 4 1 1 20 = 0 READER",
        "go 4 5 = 2", "fill 4 1 1 20 = 0 READER", "fill 4 1 1 0 = 0", AS_BEFORE.replace(">7", "7")
        .replace("<", "><"), ROW_AS_BEFORE);
  }

  private static void promise22() {
    Script.playBehind("22 pack: something LEFT, LIMIT below CAPACITY", Script.PART, "pack 4 = 3",
        "whole 4 = 7 8 9 >8 9 10 <", "back 4 = -9 NO MARK",
        "row  = 1 2 3 4 7 8 9 8 9 10 11 12 13 14 15 16");
    Script.playBehind("22 pack: nothing LEFT, below CAPACITY and at it", Script.PART, "go 4 5 = 2",
        "pack 4 = 0", "whole 4 = >5 6 7 8 9 10 <", "go 4 6 = 0", "mark 4 = 6", "pack 4 = 0",
        "whole 4 = >5 6 7 8 9 10 <", "end 4 0 = 6", "pack 4 = 0", "ofPane 4 1 = 6", ROW_AS_BEFORE);
    Script.playBehind("22 pack: everything LEFT", Script.PART, "rewind 4 = 5", "mark 4 = 0",
        "pack 4 = 5", "whole 4 = 5 6 7 8 9 >10 <", "rewind 4 = 6", "pack 4 = 6",
        "whole 4 = 5 6 7 8 9 10 ><", "ofPane 4 4 = -1", ROW_AS_BEFORE);
    Script.playBehind("22 pack: one LEFT, one ahead of it", Script.PART, "go 4 4 = 2",
        "pack 4 = 1", "whole 4 = 9 >6 7 8 9 10 <", "pack 4 = 5", "whole 4 = 6 7 8 9 10 >10 <");
    Script.play("22 pack: the long ROW", "fill 0 1 1 16 = 16", "go 0 1 = 16", "pack 0 = 15",
        "row  = 2 3 4 5 6 7 8 9 10 11 12 13 14 15 16 16", "ofPane 0 0 = 15", "ofPane 0 1 = 16");
    Script.playBehind("22 pack: READER, whatever is LEFT", Script.PART, "reader 4 4 = 3",
        "pack 4 = -9 READER", AS_BEFORE, "go 4 5 = 2", "pack 4 = -9 READER", "rewind 4 = 5",
        "pack 4 = -9 READER", "end 4 0 = 5", "pack 4 = -9 READER", "ofPane 4 1 = 0",
        ROW_AS_BEFORE);
  }

  private static void promise23Many() {
    for (String many : new String[] {"-1", "21", "-2147483648", "2147483647"}) {
      Script.playBehind("23 pour: many is 0 to 20", Script.PART, "pour 4 5 " + many + NOT_SO,
          "pour 4 4 " + many + NOT_SO, AS_BEFORE, "reader 5 5 = 8", "pour 4 5 " + many + NOT_SO,
          "end 5 0 = 8", "pour 4 5 " + many + NOT_SO, "pour 5 4 " + many + NOT_SO, "house 1 = 0",
          "house 4 = 0", "total 5 = 0", ROW_AS_BEFORE);
    }
    Script.playBehind("23 pour: 0, 1, as many as LEFT, one more", Script.PART, "pour 4 5 0 = 0",
        "ofPane 4 0 = 2", "pour 4 5 1 = 1", "whole 5 = 7 >0 0 0 0 0 0 0 <", "pour 4 5 2 = 2",
        "whole 4 = 5 |6 7 8 9 ><10 ", "go 4 2 = 5", "pour 4 5 4 = 3",
        "whole 5 = 7 8 9 7 8 9 >0 0 <", "back 4 = 4", ROW_AS_BEFORE);
    Script.play("23 pour: all the places at once", "fill 0 1 1 16 = 16", "fresh 4 12 = 12",
        "clear 0 = 16", "pour 0 4 20 = 12 FULL", "ofPane 0 0 = 12", "clear 4 = 12",
        "pour 0 4 20 = 4", "ofPane 0 0 = 16", "ofPane 4 0 = 4", "house 1 = 1", "house 2 = 0");
  }

  private static void promise23Ends() {
    Script.playBehind("23 pour: nothing LEFT in the first one, whatever the other one is",
        Script.PART, "go 4 5 = 2", "pour 4 5 1 = 0", "pour 4 5 20 = 0", "end 5 0 = 8",
        "pour 4 5 1 = 0", "reader 5 5 = 0", "pour 4 5 20 = 0", "pour 4 4 1 = 0", "pour 5 5 1 = 0",
        "house 1 = 0", "house 2 = 0", "house 4 = 0", "ofPane 4 0 = 5");
    Script.playBehind("23 pour: the other one is FULL exactly as it ends, and one ahead of that",
        Script.PART, "end 5 3 = 8", "pour 4 5 3 = 3", "ofPane 4 0 = 5", "go 4 2 = 5", "go 5 1 = 3",
        "pour 4 5 2 = 2", "ofPane 4 0 = 4", "go 5 2 = 3", "go 4 2 = 4", "pour 4 5 2 = 1 FULL",
        "whole 4 = 5 |6 7 >8 9 <10 ", "whole 5 = 7 7 7 ><0 0 0 0 0 ", "peek 4 = 8",
        "pour 4 5 20 = 0 FULL", "ofPane 4 0 = 3");
    Script.playBehind("23 pour: into a READER, then FULL, and a MARK at POSITION stays",
        Script.PART, "mark 4 = 2", "reader 5 5 = 8", "pour 4 5 3 = 0 READER", "ofPane 4 0 = 2",
        "ofPane 4 4 = 2", "go 5 8 = 0", "pour 4 5 3 = 0 READER", "pour 4 5 0 = 0", "fresh 5 0 = 0",
        "pour 4 5 3 = 0 FULL", "ofPane 4 4 = 2", "get 4 = 7", "total 5 = 0");
    Script.playBehind("23 pour: out of a READER", Script.PART, "reader 4 4 = 3", "pour 4 5 9 = 3",
        "whole 5 = 7 8 9 >0 0 0 0 0 <", "ofPane 4 0 = 5", "go 4 2 = 5", "end 5 3 = 8",
        "pour 4 5 9 = 0 FULL", "ofPane 4 0 = 2", "back 4 = 1");
  }

  private static void promise23IntoItself() {
    Script.playBehind("23 pour: into itself with an odd number LEFT", Script.PART,
        "pour 4 4 1 = 1", "whole 4 = 5 |6 7 7 >9 <10 ", "pour 4 4 1 = 0 FULL",
        "whole 4 = 5 |6 7 7 >9 <10 ", "go 4 2 = 4", "pour 4 4 2 = 1 FULL", "ofPane 4 0 = 4");
    Script.playBehind("23 pour: into itself with an even number LEFT", Script.PART, "end 4 6 = 5",
        "pour 4 4 20 = 2", "whole 4 = 5 |6 7 7 9 9 ><", "pour 4 4 20 = 0", "house 1 = 0");
    Script.playBehind("23 pour: into itself while it is a READER", Script.PART, "reader 4 4 = 3",
        "pour 4 4 20 = 0 READER", AS_BEFORE, "pour 4 4 0 = 0", "go 4 5 = 2", "pour 4 4 1 = 0",
        "house 4 = 1");
    Script.playBehind("23 pour: into a twin, onto the places themselves", Script.PART,
        "twin 5 4 = 3", "pour 4 5 20 = 3", "ofPane 4 0 = 5", "ofPane 5 0 = 5", ROW_AS_BEFORE,
        "go 4 2 = 5", "go 5 4 = 5", "pour 4 5 20 = 1 FULL", "at 4 4 = 7", "ofPane 4 0 = 3");
  }

  private static void promise24() {
    Script.playBehind("24 lay: place is 0 to 15", Script.PART, "lay 0 10 = 1", "lay 15 160 = 16",
        "lay 4 50 = 5", AS_BEFORE.replace("5 |", "50 |"),
        "row  = 10 2 3 4 50 6 7 8 9 10 11 12 13 14 15 160");
    for (String place : new String[] {"-1", "16", "17", "-2147483648", "2147483647"}) {
      Script.playBehind("24 lay: no other place, even with a VALUE below 0", Script.PART,
          "lay " + place + " 0" + NO_PLACE, "lay " + place + " -1" + NO_PLACE, ROW_AS_BEFORE);
    }
    Script.playEach("24 lay: no VALUE below 0", Script.PART, "lay 0 -1" + NOT_SO,
        "lay 15 -1" + NOT_SO, "lay 4 -2147483648" + NOT_SO);
    Script.playBehind("24 lay: through no PANE, so no READER bars it", Script.PART,
        "reader 0 0 = 16", "reader 1 0 = 16", "reader 2 0 = 16", "reader 3 0 = 16",
        "reader 4 4 = 3", "lay 6 0 = 7", "peek 4 = 0", "lay 6 2147483647 = 0",
        "peek 4 = 2147483647");
  }

  private static void promise25() {
    Script.playBehind("25 reach: 0 to CAPACITY - 1, also at LIMIT and behind it", Script.PART,
        "reach 4 0 50 = 5", "reach 4 4 90 = 9", "reach 4 5 100 = 10", "stretch 4 -2 = 3",
        "reach 4 3 80 = 8", "reach 4 5 101 = 100", "whole 4 = 50 |6 >7 <80 90 101 ",
        "row  = 1 2 3 4 50 6 7 80 90 101 11 12 13 14 15 16");
    Script.playEach("25 reach: BEYOND", Script.PART, "reach 4 6 1 = -9 BEYOND",
        "reach 4 7 1 = -9 BEYOND", "reach 4 11 1 = -9 BEYOND", "reach 4 12 1 = -9 BEYOND",
        "reach 4 -1 1 = -9 BEYOND", "reach 4 -4 1 = -9 BEYOND", "reach 4 -5 1 = -9 BEYOND");
    for (String index : FAR_OFF) {
      Script.playBehind("25 reach: BEYOND, far off", Script.PART,
          "reach 4 " + index + " 1 = -9 BEYOND", AS_BEFORE, ROW_AS_BEFORE);
    }
    Script.play("25 reach: LIMIT 0", "end 4 0 = 8", "reach 4 0 1 = 0", "reach 4 7 2 = 0",
        "reach 4 8 3 = -9 BEYOND", "whole 4 = ><1 0 0 0 0 0 0 2 ", "reach 0 15 4 = 0",
        "reach 0 16 4 = -9 BEYOND");
    Script.playBehind("25 reach: READER, then BEYOND", Script.PART, "reader 4 4 = 3",
        "reach 4 6 1 = -9 READER", "reach 4 -1 1 = -9 READER", "reach 4 0 1 = -9 READER",
        "reach 4 5 1 = -9 READER", "house 5 = 0", "house 4 = 4", AS_BEFORE, ROW_AS_BEFORE);
  }
}
