/** Promises 1 to 4: a new object, letter, house, piece. */
final class TellingTest {
  public static void main(String[] args) {
    newObject();
    letters();
    statements();
    badLetters();
    badStatements();
    aFaultChangesNothing();
    yearsOfAText();
    pieces();
    blameOfKinds();
    wideOfKinds();
    Due.end("TellingTest");
  }

  private static void newObject() {
    BlameIsFurniture x = new BlameIsFurniture();
    for (int what = 0; what <= 16; what++) {
      int want = what == 2 ? 2 : what == 6 ? 54 : what == 9 || what == 10 ? -9 : 0;
      Due.due("new: count(" + what + ")", x.count(what), want);
    }
    for (int room = 0; room < 6; room++) {
      Due.due("new: size", x.size(room, 9), 9);
    }
    Due.due("new: wide 1", x.wide(1, 6), 6);
    Due.due("new: wide 2", x.wide(2, 6), 6);
    Due.due("new: heirs", x.heirs(2), 2);
    Due.due("new: image", x.image(), 0);
    Due.due("new: piece", x.piece(0, 0), -1);
    Due.due("new: judge", x.judge(), -9);
    Due.due("new: on", new BlameIsFurniture().on(), -3);
  }

  private static void letters() {
    BlameIsFurniture x = new BlameIsFurniture();
    Due.due("letter(0)", x.letter(0), 1);
    Due.due("letter(255)", x.letter(255), 2);
    Due.due("letter(-1)", x.letter(-1), -4);
    Due.due("letter(256)", x.letter(256), -6);
    for (int i = 3; i <= 96; i++) {
      Due.due("letter", x.letter('i'), i);
    }
    Due.due("the 97th letter", x.letter('i'), -6);
    Due.due("the 97th letter below 0", x.letter(-1), -4);
    Due.due("letters", x.count(8), 96);
    Due.refusals(x, 0, 0, 0, 2, 0, 2);
    Due.due("house", x.house(), -1000);
    Due.due("no letters any more", x.count(8), 0);
    Due.due("letter again", x.letter(';'), 1);
  }

  private static void statements() {
    BlameIsFurniture x = new BlameIsFurniture();
    Due.due("all statements", Due.tell(x, "ip4720;m03;r320;s14;s29;h4;y60;p0;ic1199;m09;"), 10);
    int[] first = {0, 4, 2, 80, 9, 2, 4};
    int[] second = {3, 1, 1, 99, 9, 10, 0};
    for (int what = 0; what < 7; what++) {
      Due.due("piece(0, " + what + ")", x.piece(0, what), first[what]);
      Due.due("piece(1, " + what + ")", x.piece(1, what), second[what]);
    }
    Due.due("size(3)", x.size(3, 9), 20);
    Due.due("wide(1)", x.wide(1, 6), 4);
    Due.due("wide(2)", x.wide(2, 6), 9);
    Due.due("heirs", x.heirs(2), 4);
    Due.due("year", x.count(1), 60);
    Due.due("letters", x.count(8), 0);
    Due.due("a house behind a house", Due.tell(x, "it9990;m24;"), 2);
    Due.due("pieces", x.count(0), 3);
    Due.due("the third stands", x.piece(2, 4), 4);
    Due.due("least numbers", Due.tell(x, "r000;s10;h2;y01;ip1000;"), 5);
    Due.due("size(0) was 0", x.size(0, 9), 0);
    Due.due("wide(1) was 0", x.wide(1, 6), 0);
    Due.due("year is 61", x.count(1), 61);
  }

  private static void badLetters() {
    String[] texts = {"", "x", ";", "I", "i", "ix", "iP1000;", "ip", "ipx", "ip1", "ip10", "ip100", "ip1000", "ip1000x",
        "ip10000;", "ip 1000;", "m", "m0", "m00", "m0;", "m000;", "r00;", "r0000;", "s1;", "s111;", "h;", "h22;", "y1;", "y011;",
        "p;", "p00;", "h2;;", "h2; h2;", "h2;h", "h9;x", "m00;i", "h2;\u00ff", "i\u0000"};
    int[] places = {0, 0, 0, 0, 1, 1, 1, 2, 2, 3, 4, 5, 6, 6,
        6, 2, 1, 2, 3, 2, 3, 3, 4, 2, 3, 1, 2, 2, 3,
        1, 2, 3, 3, 4, 3, 5, 3, 1};
    BlameIsFurniture x = new BlameIsFurniture();
    for (int i = 0; i < texts.length; i++) {
      Due.due("house of \"" + texts[i] + "\"", Due.tell(x, texts[i]), -1000 - places[i]);
      Due.due("no letters", x.count(8), 0);
    }
    BlameIsFurniture y = new BlameIsFurniture();
    Due.due("96 letters, the last statement lacks its end", Due.tell(y, "h2;".repeat(31) + "ip1"), -1096);
    Due.due("96 letters", Due.tell(y, "h2;".repeat(31) + "h3;"), 32);
    Due.due("heirs", y.count(2), 3);
    Due.refusals(y, 0, 0, 0, 0, 0, 0);
  }

  private static void badStatements() {
    String seven = "ip1000;".repeat(7);
    String[] texts = {"ip0100;", "m00;", "m79;", "m99;", "ip1000;m06;", "ip1000;m07;", "ip1000;m08;", "ip1000;m10;", "ip1000;m09;",
        "ip1000;m00;m00;", "m00;ip1000;", "r600;", "r900;", "r021;", "r099;", "ip9000;m00;r008;", "ip9000;r008;m00;",
        "s06;", "s36;", "s96;", "h0;", "h1;", "h5;", "h9;", "y00;", "y61;", "y99;", "p0;", "ip1900;p0;", "ip1800;p0;p0;", "ip1000;p1;",
        seven + "ip1000;", "iw1000;m00;m02;", "iw1000;m04;m02;", "ip7000;m02;m00;", "ip5000;ip5000;m00;m10;", "h1;h5;", "h2;h5;h1;"};
    int[] places = {0, 0, 0, 0, 7, 7, 7, 7, 7,
        11, 0, 0, 0, 0, 0, 11, 12,
        0, 0, 0, 0, 0, 0, 0, 0, 0, 0, 0, 7, 10, 7,
        49, 11, 11, 11, 18, 0, 3};
    for (int i = 0; i < texts.length; i++) {
      BlameIsFurniture x = new BlameIsFurniture();
      Due.due("house of \"" + texts[i] + "\"", Due.tell(x, texts[i]), -2000 - places[i]);
      Due.due("no letters", x.count(8), 0);
      Due.due("no pieces", x.count(0), 0);
      Due.refusals(x, 0, 0, 0, 0, 0, 0);
    }
    Due.told(seven);
    Due.told("iw1000;m00;m01;m09;m04;m05;");
    Due.told("ip6000;m00;m02;m04;m00;");
    Due.told("ip5000;ip4000;m00;m10;r009;");
    Due.told("s15;s25;iv6000;m00;m05;");
    Due.told("h2;h4;r020;r500;y60;");
  }

  private static void aFaultChangesNothing() {
    BlameIsFurniture x = Due.told("ip3500;");
    Due.due("fault at the end", Due.tell(x, "is1100;m01;r015;s10;h4;y10;p0;m09;m09;"), -2034);
    Due.due("a bad letter at the end", Due.tell(x, "h3;y10;?"), -1007);
    int[] counts = {1, 0, 2, 3, 5, 0, 54, 0, 0};
    for (int what = 0; what < counts.length; what++) {
      Due.due("count(" + what + ")", x.count(what), counts[what]);
    }
    Due.due("age", x.piece(0, 3), 0);
    Due.due("wide(1)", x.wide(1, 6), 6);
    Due.due("what stands ahead of the text counts", Due.tell(x, "m03;m03;"), -2004);
    Due.due("it can be carried still", Due.tell(x, "m03;"), 1);
  }

  private static void yearsOfAText() {
    BlameIsFurniture x = Due.told("y60;".repeat(16));
    Due.due("year", x.count(1), 960);
    Due.due("above 999", Due.tell(x, "y40;"), -2000);
    Due.due("above 999 by two", Due.tell(x, "y20;y20;"), -2004);
    Due.due("to 999", Due.tell(x, "y39;"), 1);
    Due.due("year", x.count(1), 999);
    Due.due("above 999 by one", Due.tell(x, "h2;y01;"), -2003);
  }

  private static void pieces() {
    BlameIsFurniture x = Due.told("ip1203;is4506;iv7809;ic1212;iw3434;it5656;");
    int[][] want = {{0, 1, 2, 3}, {1, 4, 5, 6}, {2, 7, 8, 9}, {3, 1, 2, 12}, {4, 3, 4, 34}, {5, 5, 6, 56}};
    for (int i = 0; i < 6; i++) {
      for (int what = 0; what < 4; what++) {
        Due.due("piece(" + i + ", " + what + ")", x.piece(i, what), want[i][what]);
      }
      Due.due("in the attic", x.piece(i, 4), 9);
    }
    Due.due("piece(6, 0)", x.piece(6, 0), -1);
    Due.due("piece(-1, 0)", x.piece(-1, 0), -1);
    Due.due("piece(6, 7)", x.piece(6, 7), -1);
    Due.due("piece(0, 7)", x.piece(0, 7), -2);
    Due.due("piece(0, -1)", x.piece(0, -1), -2);
    Due.refusals(x, 3, 2, 0, 0, 0, 0);
  }

  private static void blameOfKinds() {
    BlameIsFurniture x = Due.told("r020;iw2300;is2400;it2500;ip2600;iv2700;ic2839;");
    int[] attic = {6, 4, 4, 6, 11, 11};
    for (int i = 0; i < 6; i++) {
      Due.due("in the attic, piece(" + i + ", 5)", x.piece(i, 5), attic[i]);
    }
    for (int i = 0; i < 6; i++) {
      x.carry(i, 0);
    }
    int[] together = {8, 6, 4, 6, 11, 11};
    for (int i = 0; i < 6; i++) {
      Due.due("together, piece(" + i + ", 5)", x.piece(i, 5), together[i]);
    }
    x.carry(1, 1);
    Due.due("the wardrobe without the suite", x.piece(0, 5), 6);
    Due.due("the suite without the wardrobe", x.piece(1, 5), 4);
    BlameIsFurniture y = Due.told("r120;is1200;is1200;iw1200;m01;m11;m21;");
    Due.due("three suites: a suite", y.piece(0, 5), 6);
    Due.due("three suites: a wardrobe", y.piece(2, 5), 8);
    BlameIsFurniture last = Due.told("ip1600;iv1900;");
    Due.due("the last one's next is the first", last.piece(1, 5), 10);
    Due.due("a veneer alone", Due.told("iv1900;").piece(0, 5), 4);
    Due.due("a table alone", Due.told("it1900;").piece(0, 5), 2);
    Due.due("a table last", Due.told("ip1500;it1700;").piece(1, 5), 4);
    Due.due("a clock of 9", Due.told("ic1009;").piece(0, 5), 0);
    Due.due("a clock of 10", Due.told("ic1010;").piece(0, 5), 1);
    Due.due("a plain one of 99", Due.told("ip1399;").piece(0, 5), 3);
  }

  private static void wideOfKinds() {
    BlameIsFurniture x = Due.told("ip9000;is8000;iv7000;ic7000;iw1000;it6000;iv1000;");
    int[] wide = {9, 8, 6, 3, 10, 6, 0};
    for (int i = 0; i < 7; i++) {
      Due.due("piece(" + i + ", 6)", x.piece(i, 6), wide[i]);
    }
    Due.due("a clock of bulk 1", Due.told("ic1000;").piece(0, 6), 0);
  }
}
