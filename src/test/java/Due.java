/** Compares answers with those that are due, and tells houses in letters. */
final class Due {
  private static final int MOST_LETTERS = 96;
  private static int wrong = 0;

  private Due() {
  }

  static void due(String call, long got, long want) {
    if (got != want) {
      wrong++;
      System.out.println(call + " answered " + got + ", due is " + want);
    }
  }

  /** The answer of house() to a text. */
  static int tell(BlameIsFurniture x, String text) {
    for (int i = 0; i < text.length(); i++) {
      x.letter(text.charAt(i));
    }
    return x.house();
  }

  /** Statements without a fault, told in as many houses as their letters need. */
  static void tellAll(BlameIsFurniture x, String statements) {
    int begin = 0;
    while (begin < statements.length()) {
      int end = statements.lastIndexOf(';', begin + MOST_LETTERS - 1) + 1;
      String text = statements.substring(begin, end);
      due("house() of " + text, tell(x, text), text.chars().filter(c -> c == ';').count());
      begin = end;
    }
  }

  /** A new object into which houses without a fault have come. */
  static BlameIsFurniture told(String statements) {
    BlameIsFurniture x = new BlameIsFurniture();
    tellAll(x, statements);
    return x;
  }

  /** REFUSALS -1 .. -6, as often as told. */
  static void refusals(BlameIsFurniture x, int... often) {
    for (int i = 0; i < 6; i++) {
      due("count(" + (11 + i) + ")", x.count(11 + i), often[i]);
    }
  }

  static void end(String test) {
    System.out.println(wrong == 0 ? test + ": all answers are as due" : test + ": " + wrong + " answers are not as due");
    if (wrong != 0) {
      System.exit(1);
    }
  }
}
