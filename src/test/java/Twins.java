/**
 * Two objects with the same calls behind them. One is asked a call more; then both are asked for all that they hold,
 * so that whatever that call changed is seen.
 */
final class Twins {
  /** No refusal. */
  static final int FINE = 0;

  private static final int MOST_CALLS = 512;
  // What the image holds is other than what comes behind it, so that a call that goes on from it is seen.
  private static final String IN_THE_IMAGE = "y02;h4;r511;s17;";
  private static final String BEHIND_THE_IMAGE = "h2;r509;s16;";

  private final BlameIsFurniture asked;
  private final BlameIsFurniture other;
  private String call = "";
  private int calls = 0;
  private int answer = 0;

  /** Twins with a house, three numbers in the row, which are so, and letters that wait. */
  Twins(String house) {
    this(house, 3, "h3;");
  }

  Twins(String house, int inRow, String letters) {
    asked = built(house, inRow, letters);
    other = built(house, inRow, letters);
  }

  private Twins(BlameIsFurniture asked, BlameIsFurniture other, String call, int calls) {
    this.asked = asked;
    this.other = other;
    this.call = call;
    this.calls = calls;
  }

  private BlameIsFurniture built(String house, int inRow, String letters) {
    BlameIsFurniture x = new BlameIsFurniture();
    Due.tellAll(x, IN_THE_IMAGE);
    x.image();
    Due.tellAll(x, BEHIND_THE_IMAGE + house);
    for (int year = 0; year < inRow; year++) {
      x.row(Math.min(99, x.later(year)));
    }
    for (int i = 0; i < letters.length(); i++) {
      x.letter(letters.charAt(i));
    }
    x.piece(-1, 0);
    x.sell(2);
    x.later(-1);
    x.later(201);
    calls = IN_THE_IMAGE.length() + housesOf(IN_THE_IMAGE) + 1 + BEHIND_THE_IMAGE.length() + house.length()
        + housesOf(BEHIND_THE_IMAGE + house) + 2 * inRow + letters.length() + 4;
    return x;
  }

  // No statement has more than seven letters, so every text but the last has 90 at least.
  private static int housesOf(String statements) {
    return statements.length() / 90 + 1;
  }

  /** One answers the refusal, and nothing changes but how many there were. */
  static void refused(String house, int number, String name, int... numbers) {
    new Twins(house).refuses(number, name, numbers);
  }

  /** One answers what is due, and nothing changes, not even how many refusals there were. */
  static void told(String house, int want, String name, int... numbers) {
    new Twins(house).tells(want, name, numbers);
  }

  void refuses(int number, String name, int... numbers) {
    ask(name, numbers);
    Due.due(call, answer, number);
    sameRefusals(number);
    sameInAll();
  }

  void tells(int want, String name, int... numbers) {
    ask(name, numbers);
    Due.due(call, answer, want);
    sameRefusals(FINE);
    sameInAll();
  }

  /** Refuses with that number and changes nothing else; or, when it is FINE, tells something and changes nothing. */
  void refusesOrTells(int number, String name, int... numbers) {
    ask(name, numbers);
    refusesAsTold(number);
    sameInAll();
  }

  /** Refuses with that number and changes nothing else; or, when it is FINE, does what it does. */
  void refusesOrDoes(int number, String name, int... numbers) {
    ask(name, numbers);
    refusesAsTold(number);
    if (number != FINE) {
      sameInAll();
    }
  }

  /** The letters that wait have that fault; behind it all is as in those for whom no letters came. */
  void hasFault(int fault, Twins withoutLetters) {
    ask("house");
    Due.due(call, answer, fault);
    Twins both = new Twins(asked, withoutLetters.asked, call, calls);
    both.sameRefusals(FINE);
    both.sameInAll();
  }

  private void ask(String name, int... numbers) {
    int a = numbers.length > 0 ? numbers[0] : 0;
    int b = numbers.length > 1 ? numbers[1] : 0;
    int c = numbers.length > 2 ? numbers[2] : 0;
    calls++;
    answer = Calls.call(asked, name, a, b, c);
    call = name + java.util.Arrays.toString(numbers);
  }

  private void refusesAsTold(int number) {
    boolean isRefusal = answer >= -6 && answer <= -1;
    Due.due(call + " as a refusal", isRefusal ? answer : FINE, number);
    sameRefusals(number);
  }

  private void sameRefusals(int number) {
    for (int i = 1; i <= 6; i++) {
      calls++;
      int more = asked.count(10 + i) - other.count(10 + i);
      int want = number == -i ? 1 : 0;
      if (more != want) {
        Due.due(call + ": more refusals " + -i, more, want);
      }
    }
  }

  private void sameInAll() {
    sameHouse();
    // The numbers of the row are so in both, so that any other number in it is told.
    same("judge", 0, 0);
    same("count", 7, 0);
    same("house", 0, 0);
    sameHouse();
    same("on", 0, 0);
    sameHouse();
    Due.due(call + ": no more than 512 calls", calls <= MOST_CALLS ? 1 : 0, 1);
  }

  private void sameHouse() {
    for (int what = 0; what <= 8; what++) {
      same("count", what, 0);
    }
    for (int piece = 0; piece < other.count(0); piece++) {
      for (int what = 0; what <= 4; what++) {
        same("piece", piece, what);
      }
    }
    for (int room = 0; room < 6; room++) {
      same("size", room, 20);
    }
    same("wide", 1, 9);
    same("wide", 2, 9);
  }

  private void same(String name, int a, int b) {
    calls++;
    int got = Calls.call(asked, name, a, b, 0);
    int want = Calls.call(other, name, a, b, 0);
    if (got != want) {
      Due.due(call + ", behind it " + name + "(" + a + ", " + b + ")", got, want);
    }
  }
}
