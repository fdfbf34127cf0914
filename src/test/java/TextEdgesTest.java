/** Promises 2, 3 and the Terms' part on a HOUSE told in letters: every place, every letter, every number of a text. */
final class TextEdgesTest {
  private static final String[] STATEMENTS = {"ip1234;", "m00;", "r309;", "s16;", "h2;", "y01;", "p0;"};
  // What must stand at each place: S a statement's first letter, K a letter of a KIND, 9 a digit.
  private static final String[] FORMS = {"SK9999;", "S99;", "S999;", "S99;", "S9;", "S99;", "S9;"};
  private static final String AHEAD = "ip1000;";

  public static void main(String[] args) {
    everyLetterAtEveryPlace();
    everyEnd();
    formGoesFirst();
    statementsNeeded();
    ninetySixLetters();
    piecesInRange();
    carriedInRange();
    roomsInRange();
    stairsInRange();
    heirsInRange();
    yearsInRange();
    polishedInRange();
    firstStatementThatIsNotRight();
    behindAllAhead();
    lettersAreNoMore();
    Due.end("TextEdgesTest");
  }

  private static boolean fits(char asked, int letter) {
    switch (asked) {
      case 'S': return "imrshyp".indexOf(letter) >= 0;
      case 'K': return "psvcwt".indexOf(letter) >= 0;
      case '9': return letter >= '0' && letter <= '9';
      default: return letter == asked;
    }
  }

  // "kind 1 the place of the first letter with which no HOUSE can go on"
  private static void everyLetterAtEveryPlace() {
    for (int s = 0; s < STATEMENTS.length; s++) {
      for (int place = 0; place < STATEMENTS[s].length(); place++) {
        for (int letter = 0; letter <= 255; letter++) {
          String begun = AHEAD + STATEMENTS[s].substring(0, place) + (char) letter;
          int lacking = -1000 - begun.length();
          boolean goesOn = fits(FORMS[s].charAt(place), letter);
          boolean isWhole = goesOn && FORMS[s].charAt(place) == ';';
          Due.due("house of \"" + begun + "\"", Due.tell(new BlameIsFurniture(), begun), isWhole ? 2 : goesOn ? lacking : lacking + 1);
          if (!goesOn) {
            String more = begun + "?" + STATEMENTS[s];
            Due.due("house of \"" + more + "\"", Due.tell(new BlameIsFurniture(), more), lacking + 1);
          }
        }
      }
    }
  }

  // "(the end, if something lacks)"
  private static void everyEnd() {
    for (String statement : STATEMENTS) {
      for (int length = 1; length < statement.length(); length++) {
        Due.due("house of a part", Due.tell(new BlameIsFurniture(), statement.substring(0, length)), -1000 - length);
        String text = AHEAD + statement.substring(0, length);
        Due.due("house of \"" + text + "\"", Due.tell(new BlameIsFurniture(), text), -1000 - text.length());
      }
      Due.due("house of all of it", Due.tell(new BlameIsFurniture(), AHEAD + statement), 2);
    }
  }

  // "kind 1 ..; else kind 2": a letter behind goes before a number ahead.
  private static void formGoesFirst() {
    String[] wrong = {"ip0000;", "m90;", "m16;", "r600;", "r021;", "s06;", "s36;", "h1;", "h5;", "y00;", "y61;", "p1;"};
    for (String statement : wrong) {
      String text = AHEAD + statement;
      Due.due("house of \"" + text + "\"", Due.tell(new BlameIsFurniture(), text), -2007);
      Due.due("a letter behind", Due.tell(new BlameIsFurniture(), text + "x"), -1000 - text.length());
      Due.due("something lacks behind", Due.tell(new BlameIsFurniture(), text + "h2"), -1002 - text.length());
      Due.due("its own end lacks", Due.tell(new BlameIsFurniture(), text.substring(0, text.length() - 1)), -999 - text.length());
    }
  }

  // "At least one STATEMENT."
  private static void statementsNeeded() {
    Due.due("no letters", new BlameIsFurniture().house(), -1000);
    Due.due("no statement", Due.tell(new BlameIsFurniture(), ";"), -1000);
    Due.due("one", Due.tell(new BlameIsFurniture(), "h2;"), 1);
    Due.due("none behind one", Due.tell(new BlameIsFurniture(), "h2;;"), -1003);
    BlameIsFurniture x = Due.told("h2;");
    Due.due("no letters behind a house", x.house(), -1000);
    Due.refusals(x, 0, 0, 0, 0, 0, 0);
  }

  // "(96 at most)"
  private static void ninetySixLetters() {
    BlameIsFurniture x = new BlameIsFurniture();
    for (int i = 1; i <= 96; i++) {
      Due.due("letter", x.letter("h4;".charAt((i - 1) % 3)), i);
    }
    Due.due("the 97th", x.letter('h'), -6);
    Due.due("96 letters", x.count(8), 96);
    Due.due("house", x.house(), 32);
    Due.due("heirs", x.count(2), 4);
    Due.due("the first again", x.letter('h'), 1);
    BlameIsFurniture lacks = new BlameIsFurniture();
    Due.due("the end of 96", Due.tell(lacks, "h4;".repeat(31) + "y60"), -1096);
    Due.due("the last of 96", Due.tell(lacks, "h4;".repeat(31) + "h4x"), -1095);
    Due.due("the last statement of 96", Due.tell(lacks, "h4;".repeat(31) + "h5;"), -2093);
    Due.due("95", Due.tell(lacks, "h4;".repeat(31) + "h4"), -1095);
    Due.due("nothing came", lacks.count(2), 2);
  }

  // "a letter of a KIND, BULK, FAULT (a digit each), AGE (2 digits)"; BULK (1 .. 9), FAULT (0 .. 9), AGE (0 .. 99), 7 at most.
  private static void piecesInRange() {
    for (int kind = 0; kind < 6; kind++) {
      for (int bulk = 0; bulk <= 9; bulk++) {
        for (int fault = 0; fault <= 9; fault += 3) {
          for (int age = 0; age <= 99; age += 11) {
            BlameIsFurniture x = new BlameIsFurniture();
            String text = "i" + "psvcwt".charAt(kind) + bulk + fault + age / 10 + age % 10 + ";";
            Due.due("house of " + text, Due.tell(x, text), bulk == 0 ? -2000 : 1);
            Due.due("pieces", x.count(0), bulk == 0 ? 0 : 1);
            Due.due("kind", x.piece(0, 0), bulk == 0 ? -1 : kind);
            Due.due("bulk", x.piece(0, 1), bulk == 0 ? -1 : bulk);
            Due.due("fault", x.piece(0, 2), bulk == 0 ? -1 : fault);
            Due.due("age", x.piece(0, 3), bulk == 0 ? -1 : age);
            Due.due("in the attic", x.piece(0, 4), bulk == 0 ? -1 : 9);
          }
        }
      }
    }
    for (int n = 0; n <= 9; n++) {
      BlameIsFurniture x = new BlameIsFurniture();
      String text = "h2;" + "ip1000;".repeat(n);
      Due.due(n + " pieces", Due.tell(x, text), n > 7 ? -2052 : n + 1);
      Due.due("pieces", x.count(0), n > 7 ? 0 : n);
    }
    BlameIsFurniture full = Due.told("ip1000;".repeat(7));
    Due.due("one more, by another house", Due.tell(full, "ip1000;"), -2000);
    Due.due("no more", full.count(0), 7);
  }

  // "m" a PIECE, a ROOM (a digit each; 9 none); "no such PIECE, ROOM".
  private static void carriedInRange() {
    for (int piece = 0; piece <= 9; piece++) {
      for (int room = 0; room <= 9; room++) {
        BlameIsFurniture x = Due.told("ip1000;ip2000;m14;");
        boolean isRight = piece == 0 && room <= 5 || piece == 1 && (room <= 5 && room != 4 || room == 9);
        Due.due("m" + piece + room, Due.tell(x, "m" + piece + room + ";"), isRight ? 1 : -2000);
        Due.due("stands", x.piece(0, 4), isRight && piece == 0 ? room : 9);
        Due.due("stands", x.piece(1, 4), isRight && piece == 1 ? room : 4);
      }
    }
  }

  // "r" a ROOM (a digit), SIZE (2 digits): SIZE (0 .. 20), "a SIZE below what stands there".
  private static void roomsInRange() {
    for (int room = 0; room <= 9; room++) {
      for (int size = 0; size <= 99; size++) {
        BlameIsFurniture x = Due.told("ip5000;ip3000;m03;m13;");
        boolean isRight = room <= 5 && size <= 20 && (room != 3 || size >= 8);
        String text = "r" + room + size / 10 + size % 10 + ";";
        Due.due("house of " + text, Due.tell(x, text), isRight ? 1 : -2000);
        Due.due("sizes behind " + text, x.count(6), isRight ? 45 + size : 54);
        if (isRight) {
          Due.due("size behind " + text, x.size(room, 20), size);
        }
      }
    }
  }

  // "s" FLOOR 1 or 2, WIDE (a digit each)
  private static void stairsInRange() {
    for (int floor = 0; floor <= 9; floor++) {
      for (int wide = 0; wide <= 9; wide++) {
        BlameIsFurniture x = new BlameIsFurniture();
        boolean isRight = floor == 1 || floor == 2;
        Due.due("s" + floor + wide, Due.tell(x, "s" + floor + wide + ";"), isRight ? 1 : -2000);
        Due.due("wide(1)", x.wide(1, 6), floor == 1 ? wide : 6);
        Due.due("wide(2)", x.wide(2, 6), floor == 2 ? wide : 6);
      }
    }
  }

  // "h" HEIRS (a digit): 2 .. 4.
  private static void heirsInRange() {
    for (int n = 0; n <= 9; n++) {
      BlameIsFurniture x = Due.told("h3;");
      boolean isRight = n >= 2 && n <= 4;
      Due.due("h" + n, Due.tell(x, "h" + n + ";"), isRight ? 1 : -2000);
      Due.due("heirs", x.count(2), isRight ? n : 3);
    }
  }

  // "y" YEARS (2 digits, 1 .. 60); "YEAR above 999".
  private static void yearsInRange() {
    for (int n = 0; n <= 99; n++) {
      String text = "y" + n / 10 + n % 10 + ";";
      BlameIsFurniture x = Due.told("y05;");
      boolean isRight = n >= 1 && n <= 60;
      Due.due("house of " + text, Due.tell(x, text), isRight ? 1 : -2000);
      Due.due("year behind " + text, x.count(1), isRight ? 5 + n : 5);
      BlameIsFurniture late = Due.told("y60;".repeat(16));
      boolean isRightLate = n >= 1 && n <= 39;
      Due.due("house of " + text + " in 960", Due.tell(late, text), isRightLate ? 1 : -2000);
      Due.due("year behind " + text + " in 960", late.count(1), isRightLate ? 960 + n : 960);
    }
    BlameIsFurniture last = Due.told("y60;".repeat(16) + "y38;");
    Due.due("to 1000", Due.tell(last, "y01;y01;"), -2004);
    Due.due("to 999", Due.tell(last, "y01;"), 1);
    Due.due("999", last.count(1), 999);
    Due.due("1000", Due.tell(last, "y01;"), -2000);
    Due.due("999 still", last.count(1), 999);
  }

  // "p" a PIECE (a digit): it is POLISHED; "no such PIECE", "9 at most: then it can not be".
  private static void polishedInRange() {
    for (int piece = 0; piece <= 9; piece++) {
      BlameIsFurniture x = Due.told("ip1800;ip1900;ip1000;");
      boolean isRight = piece == 0 || piece == 2;
      Due.due("p" + piece, Due.tell(x, "p" + piece + ";"), isRight ? 1 : -2000);
      Due.due("all faults", x.count(4), isRight ? 18 : 17);
      Due.due("its fault", x.piece(0, 2), piece == 0 ? 9 : 8);
    }
    Due.due("from 0 to 9", Due.tell(new BlameIsFurniture(), "ip1000;" + "p0;".repeat(9)), 10);
    Due.due("and once more", Due.tell(new BlameIsFurniture(), "ip1000;" + "p0;".repeat(10)), -2034);
  }

  // "the place of the first letter of the first STATEMENT that .. is not as it must be"
  private static void firstStatementThatIsNotRight() {
    Due.due("the first of two", Due.tell(new BlameIsFurniture(), "h2;h5;h4;h1;"), -2003);
    Due.due("the first of all", Due.tell(new BlameIsFurniture(), "h5;h5;h5;"), -2000);
    Due.due("the last", Due.tell(new BlameIsFurniture(), "ip1234;m00;r309;s16;h2;y01;p0;p1;"), -2030);
    int[] places = {0, 7, 11, 16, 20, 23, 27};
    String[] wrong = {"ip0234;", "m00;m00;", "r321;", "s01;", "h1;", "y61;", "p1;"};
    for (int i = 0; i < places.length; i++) {
      String all = String.join("", STATEMENTS);
      String text = all.substring(0, places[i]) + wrong[i] + "h9;";
      Due.due("house of " + text, Due.tell(new BlameIsFurniture(), text), -2000 - places[i] - (i == 1 ? 4 : 0));
    }
  }

  // "that, behind all ahead of it in the text, is not as it must be"
  private static void behindAllAhead() {
    String[] right = {"ip1000;m00;", "ip9000;r009;m00;", "r020;ip9000;ip9000;m00;m10;", "ip7000;m00;s17;m02;", "ip9000;ip1000;m00;m09;m10;",
        "ip5000;m00;m01;r004;", "ip1900;y10;p0;", "y60;y60;", "ip5000;m00;r005;", "ip1000;m00;m09;m00;m05;"};
    int[] statements = {2, 3, 5, 4, 5, 4, 3, 2, 3, 5};
    for (int i = 0; i < right.length; i++) {
      Due.due("house of " + right[i], Due.tell(new BlameIsFurniture(), right[i]), statements[i]);
    }
    String[] wrong = {"m00;ip1000;", "ip9000;r008;m00;", "ip9000;ip9000;m00;m10;r020;", "ip7000;m00;m02;s17;", "ip9000;ip1000;m00;m10;m09;",
        "ip5000;m00;r004;m01;", "ip1900;p0;y10;", "ip1900;y09;p0;", "ip5000;m00;s14;m02;", "ip1000;m00;m09;m09;", "p0;ip1000;"};
    int[] places = {0, 12, 18, 11, 18, 11, 7, 11, 15, 15, 0};
    for (int i = 0; i < wrong.length; i++) {
      Due.due("house of " + wrong[i], Due.tell(new BlameIsFurniture(), wrong[i]), -2000 - places[i]);
    }
  }

  // "Without FAULT all of it comes, with one nothing"; "(with a FAULT neither): how many STATEMENTS; the FAULT (nothing is counted)."
  private static void lettersAreNoMore() {
    BlameIsFurniture x = new BlameIsFurniture();
    String[] texts = {"ip1000;", "ip100;", "m06;", "", "?"};
    int[] answers = {1, -1005, -2000, -1000, -1000};
    for (int i = 0; i < texts.length; i++) {
      Due.due("house of \"" + texts[i] + "\"", Due.tell(x, texts[i]), answers[i]);
      Due.due("no letters", x.count(8), 0);
      Due.due("one piece", x.count(0), 1);
    }
    Due.refusals(x, 0, 0, 0, 0, 0, 0);
  }
}
