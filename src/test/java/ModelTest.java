import java.util.SplittableRandom;

/** Promises 1 to 37: long runs of calls by lot on the class and on the model, each answer compared. */
final class ModelTest {
  private static final String[] CALLS = {"house", "piece", "carry", "stands", "polish", "size", "wide", "heirs", "years", "blame",
      "worst", "crowded", "placing", "innocent", "shares", "dealt", "envy", "choice", "sell", "burn", "heavier", "later", "gone", "whose",
      "ask", "wider", "bigger", "guest", "row", "fits", "judge", "lots", "image", "on", "count"};
  private static final int RUNS = 400;
  // What an object answers behind its 512th call is free: room is left for a text of 96 letters and for the last look at all.
  private static final int CALLS_BY_LOT = 512 - 97 - 67;

  private static int calls = 0;

  public static void main(String[] args) {
    for (int run = 0; run < RUNS; run++) {
      run(run);
    }
    Due.end("ModelTest");
  }

  private static void run(int run) {
    SplittableRandom lot = new SplittableRandom(run);
    calls = 0;
    BlameIsFurniture x = new BlameIsFurniture();
    Model model = new Model();
    tell(x, model, run, run % 7 == 0 ? "" : pieces(lot, 1 + lot.nextInt(7)));
    tell(x, model, run, "r015;r118;r220;r312;r420;r519;");
    while (calls < CALLS_BY_LOT) {
      int kind = lot.nextInt(100);
      if (kind < 4) {
        tell(x, model, run, text(lot));
      } else if (kind < 18) {
        both(x, model, run, "carry", lot.nextInt(7), lot.nextInt(10), 0);
      } else if (kind < 22) {
        row(x, model, run, lot.nextInt(14));
      } else {
        both(x, model, run, CALLS[lot.nextInt(CALLS.length)], number(lot), number(lot), number(lot));
      }
    }
    for (int what = 0; what < 18; what++) {
      both(x, model, run, "count", what, 0, 0);
    }
    for (int i = 0; i < 49; i++) {
      both(x, model, run, "piece", i / 7, i % 7, 0);
    }
  }

  private static int number(SplittableRandom lot) {
    switch (lot.nextInt(20)) {
      case 0: return lot.nextInt();
      case 1: return -1 - lot.nextInt(3);
      case 2: return lot.nextInt(1002);
      case 3: case 4: case 5: return lot.nextInt(102);
      case 6: case 7: case 8: case 9: return lot.nextInt(24);
      default: return lot.nextInt(8);
    }
  }

  private static String pieces(SplittableRandom lot, int n) {
    StringBuilder text = new StringBuilder();
    for (int i = 0; i < n; i++) {
      text.append('i').append("psvcwt".charAt(lot.nextInt(6))).append(1 + lot.nextInt(9)).append(lot.nextInt(10))
          .append(lot.nextInt(10)).append(lot.nextInt(10)).append(';');
    }
    return text.toString();
  }

  private static String text(SplittableRandom lot) {
    StringBuilder text = new StringBuilder();
    int statements = lot.nextInt(8);
    for (int i = 0; i < statements; i++) {
      text.append(statement(lot));
    }
    if (lot.nextInt(4) == 0 && text.length() > 0) {
      text.setCharAt(lot.nextInt(text.length()), "imrshyp;0179x\u00e9".charAt(lot.nextInt(14)));
    }
    if (lot.nextInt(8) == 0 && text.length() > 0) {
      text.setLength(lot.nextInt(text.length()));
    }
    return text.toString();
  }

  private static String statement(SplittableRandom lot) {
    int digit = lot.nextInt(7);
    switch (lot.nextInt(8)) {
      case 0: return pieces(lot, 1);
      case 1: return "m" + digit + (lot.nextInt(3) == 0 ? 9 : lot.nextInt(6)) + ";";
      case 2: return "r" + lot.nextInt(6) + lot.nextInt(2) + lot.nextInt(10) + ";";
      case 3: return "s" + (1 + lot.nextInt(2)) + lot.nextInt(10) + ";";
      case 4: return "h" + (2 + lot.nextInt(3)) + ";";
      case 5: return "y" + lot.nextInt(3) + lot.nextInt(10) + ";";
      case 6: return "p" + digit + ";";
      default: return "m" + lot.nextInt(3) + lot.nextInt(6) + ";";
    }
  }

  private static void tell(BlameIsFurniture x, Model model, int run, String text) {
    for (int i = 0; i < text.length(); i++) {
      both(x, model, run, "letter", text.charAt(i), 0, 0);
    }
    both(x, model, run, "house", 0, 0, 0);
  }

  /** A row that is so for some years, and maybe asked of each piece. */
  private static void row(BlameIsFurniture x, Model model, int run, int years) {
    for (int year = 0; year < years; year++) {
      both(x, model, run, "row", Math.min(99, model.call("later", year, 0, 0)), 0, 0);
    }
    for (int i = 0; i < 7; i++) {
      both(x, model, run, "fits", i, 0, 0);
    }
    both(x, model, run, "judge", 0, 0, 0);
  }

  private static void both(BlameIsFurniture x, Model model, int run, String name, int a, int b, int c) {
    calls++;
    Due.due("run " + run + ": " + name + "(" + a + ", " + b + ", " + c + ")", Calls.call(x, name, a, b, c), model.call(name, a, b, c));
  }
}
