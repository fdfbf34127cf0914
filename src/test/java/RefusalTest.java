import java.util.function.IntBinaryOperator;
import java.util.function.IntUnaryOperator;

/**
 * Promises 2 to 37: REFUSALS. Each call with numbers at, below and above all that the document bounds: it answers the
 * number that the document tells first, and nothing changes but how many there were; a call that asks changes nothing.
 */
final class RefusalTest {
  private static final int FINE = Twins.FINE;
  private static final int NOBODY = -1;
  private static final int OTHER = -2;
  private static final int STATE = -3;
  private static final int BELOW = -4;
  private static final int ABOVE = -6;

  // Bulk 7 in room 0 of 20, 3 in room 2, 8 in room 5; the piece 3 is in the attic; the piece 1 has a FAULT of 9.
  private static final String HOUSE = "r020;ip5300;is2999;iw3599;iv4705;ic8195;m00;m10;m22;m45;";
  private static final int PIECES = 5;
  private static final int[] STANDING = {7, 0, 3, 0, 0, 8};
  private static final String SIX = "ip1000;is1100;iv1200;iw1300;it1400;ic1500;";
  private static final String LATE = "y60;".repeat(16);

  private static final int[] EDGES = {Integer.MIN_VALUE, Integer.MIN_VALUE + 1, -1000, -64, -10, -9, -6, -5, -4, -3, -2, -1, 0, 1, 2, 3,
      4, 5, 6, 7, 8, 9, 10, 11, 12, 20, 21, 60, 61, 63, 64, 99, 100, 200, 201, 255, 256, 999, 1000, Integer.MAX_VALUE - 1,
      Integer.MAX_VALUE};
  private static final int[] FEW_EDGES = {Integer.MIN_VALUE, -2, -1, 0, 1, 2, 3, 4, 5, 6, 9, 10, Integer.MAX_VALUE};

  public static void main(String[] args) {
    letters();
    pieces();
    carrying();
    carryingStates();
    polishing();
    sizes();
    widths();
    heirsAndYears();
    rooms();
    placing();
    placingOrder();
    sharing();
    selling();
    thinking();
    stairs();
    rows();
    lots();
    onFromNone();
    counting();
    noneIsNoRefusal();
    asksChangeNothing();
    faultsAreNoRefusals();
    Due.end("RefusalTest");
  }

  private static void asks(String house, String name, IntUnaryOperator due) {
    for (int a : EDGES) {
      new Twins(house).refusesOrTells(due.applyAsInt(a), name, a);
    }
  }

  private static void does(String house, String name, IntUnaryOperator due) {
    for (int a : EDGES) {
      new Twins(house).refusesOrDoes(due.applyAsInt(a), name, a);
    }
  }

  private static void asks(String house, String name, IntBinaryOperator due) {
    for (int a : EDGES) {
      for (int b : EDGES) {
        new Twins(house).refusesOrTells(due.applyAsInt(a, b), name, a, b);
      }
    }
  }

  private static void does(String house, String name, IntBinaryOperator due) {
    for (int a : EDGES) {
      for (int b : EDGES) {
        new Twins(house).refusesOrDoes(due.applyAsInt(a, b), name, a, b);
      }
    }
  }

  private static int bounded(int v, int least, int most) {
    return v < least ? BELOW : v > most ? ABOVE : FINE;
  }

  private static boolean isPiece(int piece) {
    return piece >= 0 && piece < PIECES;
  }

  private static boolean isRoom(int room) {
    return room >= 0 && room <= 5;
  }

  private static boolean isPlace(int room) {
    return isRoom(room) || room == 9;
  }

  // letter: -4; -6 (255; 96, too).
  private static void letters() {
    does(HOUSE, "letter", a -> bounded(a, 0, 255));
    for (int a : EDGES) {
      new Twins(HOUSE, 3, "h3;".repeat(32)).refusesOrDoes(a < 0 ? BELOW : ABOVE, "letter", a);
    }
    Twins lacksOne = new Twins(HOUSE, 3, "h3;".repeat(31) + "h3");
    lacksOne.refusesOrDoes(FINE, "letter", ';');
  }

  // piece: -1; -2.
  private static void pieces() {
    asks(HOUSE, "piece", (a, b) -> !isPiece(a) ? NOBODY : b < 0 || b > 6 ? OTHER : FINE);
    asks("", "piece", (a, b) -> NOBODY);
  }

  // carry, stands: -1 either.
  private static void carrying() {
    asks(HOUSE, "stands", (a, b) -> isPiece(a) && isPlace(b) ? FINE : NOBODY);
    asks("", "stands", (a, b) -> NOBODY);
    String[] canBeCarriedTo = {"12349", "12349", "39", "01234", "01349"};
    does(HOUSE, "carry", (a, b) -> !isPiece(a) || !isPlace(b) ? NOBODY : canBeCarriedTo[a].indexOf('0' + b) >= 0 ? FINE : STATE);
    does("", "carry", (a, b) -> NOBODY);
  }

  // carry: -3 it can not be.
  private static void carryingStates() {
    Twins.refused("ip1000;", STATE, "carry", 0, 9);
    Twins.refused("ip1000;m00;", STATE, "carry", 0, 0);
    Twins.refused("ip5000;ip5000;m03;", STATE, "carry", 1, 3);
    Twins.refused("ip5000;ip5000;m03;m12;", STATE, "carry", 1, 3);
    Twins.refused("ip5000;r104;", STATE, "carry", 0, 1);
    Twins.refused("ip5000;m00;s14;", STATE, "carry", 0, 2);
    Twins.refused("ip5000;m00;s14;", STATE, "carry", 0, 4);
    Twins.refused("ip5000;m00;s24;", STATE, "carry", 0, 5);
    Twins.refused("ip5000;m04;s24;", STATE, "carry", 0, 3);
    Twins.refused("ip5000;m04;s14;", STATE, "carry", 0, 1);
    Twins.refused("iw1000;m01;s19;s29;", STATE, "carry", 0, 2);
    Twins.refused("iw1000;m01;", NOBODY, "carry", 0, 8);
  }

  // polish: -1; -3 it is 9.
  private static void polishing() {
    does(HOUSE, "polish", a -> !isPiece(a) ? NOBODY : a == 1 ? STATE : FINE);
    does("", "polish", a -> NOBODY);
    new Twins("ip1800;").refusesOrDoes(FINE, "polish", 0);
    Twins.refused("ip1800;p0;", STATE, "polish", 0);
    Twins.refused("ip1900;", STATE, "polish", 0);
    Twins.refused("ip1900;", NOBODY, "polish", 1);
  }

  // size: -1; -4; -6 20; -3 more stands there.
  private static void sizes() {
    does(HOUSE, "size", (a, b) -> !isRoom(a) ? NOBODY : bounded(b, 0, 20) != FINE ? bounded(b, 0, 20) : b < STANDING[a] ? STATE : FINE);
    for (int v = 0; v <= 20; v++) {
      new Twins(HOUSE).refusesOrDoes(v < 7 ? STATE : FINE, "size", 0, v);
      new Twins(HOUSE).refusesOrDoes(v < 8 ? STATE : FINE, "size", 5, v);
      new Twins(HOUSE).refusesOrDoes(FINE, "size", 1, v);
    }
    Twins.refused("r320;ip9000;ip9000;ip2000;m03;m13;m23;", STATE, "size", 3, 19);
    new Twins("r320;ip9000;ip9000;ip2000;m03;m13;m23;").refusesOrDoes(FINE, "size", 3, 20);
    Twins.refused("r320;ip9000;m03;", BELOW, "size", 3, -1);
    Twins.refused("r320;ip9000;m03;", ABOVE, "size", 3, 21);
    Twins.refused("r320;ip9000;m03;", NOBODY, "size", 9, -1);
    Twins.refused("r320;ip9000;m03;", NOBODY, "size", 9, 21);
  }

  // wide: -1; -4; -6 9.
  private static void widths() {
    does(HOUSE, "wide", (a, b) -> a != 1 && a != 2 ? NOBODY : bounded(b, 0, 9));
  }

  // heirs: -4 below 2; -6 4. years: -4; -6 (60; YEAR above 999).
  private static void heirsAndYears() {
    does(HOUSE, "heirs", a -> bounded(a, 2, 4));
    does(HOUSE, "years", a -> bounded(a, 1, 60));
    // Twins begin in the year 2.
    does("ip1900;" + LATE + "y37;", "years", a -> a < 1 ? BELOW : ABOVE);
    does("ip1900;" + LATE + "y36;", "years", a -> bounded(a, 1, 1));
    does("ip1900;" + LATE, "years", a -> bounded(a, 1, 37));
    Twins.refused("ip1900;" + LATE, ABOVE, "years", 38);
    new Twins("ip1900;" + LATE).refusesOrDoes(FINE, "years", 37);
  }

  // blame, guest: -1.
  private static void rooms() {
    asks(HOUSE, "blame", a -> isPlace(a) || a == 10 ? FINE : NOBODY);
    asks("", "blame", a -> isPlace(a) || a == 10 ? FINE : NOBODY);
    asks(HOUSE, "guest", a -> isPlace(a) ? FINE : NOBODY);
    asks("", "guest", a -> isPlace(a) ? FINE : NOBODY);
  }

  // placing: -4 rooms, i below -1; -6 rooms above 63; -2; -3 more than 5 PIECES; -1 no such PIECE.
  private static void placing() {
    String[] houses = {"", "ip9000;", HOUSE, SIX, SIX + "ip1600;"};
    int[] pieces = {0, 1, 5, 6, 7};
    int[] sets = {Integer.MIN_VALUE, -64, -1, 0, 1, 33, 63, 64, 127, Integer.MAX_VALUE};
    int[] whats = {Integer.MIN_VALUE, -1, 0, 1, 2, Integer.MAX_VALUE};
    int[] numbers = {Integer.MIN_VALUE, -2, -1, 0, 1, 4, 5, 6, 7, Integer.MAX_VALUE};
    for (int h = 0; h < houses.length; h++) {
      for (int set : sets) {
        for (int what : whats) {
          for (int i : numbers) {
            new Twins(houses[h]).refusesOrTells(placingDue(pieces[h], set, what, i), "placing", set, what, i);
          }
        }
      }
    }
  }

  private static int placingDue(int pieces, int set, int what, int i) {
    if (set < 1) return BELOW;
    if (i < -1) return BELOW;
    if (set > 63) return ABOVE;
    if (what < 0 || what > 1) return OTHER;
    if (pieces > 5) return STATE;
    return i >= pieces ? NOBODY : FINE;
  }

  private static void placingOrder() {
    Twins.refused(SIX, BELOW, "placing", 0, 2, -2);
    Twins.refused(SIX, BELOW, "placing", 64, 2, -2);
    Twins.refused(SIX, BELOW, "placing", 0, 2, 6);
    Twins.refused(SIX, ABOVE, "placing", 64, 2, 6);
    Twins.refused(SIX, OTHER, "placing", 63, 2, 6);
    Twins.refused(SIX, STATE, "placing", 63, 1, 6);
    Twins.refused(SIX, STATE, "placing", 63, 1, -1);
    Twins.refused(HOUSE, NOBODY, "placing", 63, 1, PIECES);
    Twins.refused("", NOBODY, "placing", 63, 0, 0);
    // innocent: -3 more than 5 PIECES.
    Twins.refused(SIX, STATE, "innocent");
    Twins.refused(SIX + "ip1000;", STATE, "innocent");
    Twins.told("ip1000;".repeat(5), 5, "innocent");
  }

  // shares, dealt: -4 below -1; -1 no such PIECE. choice: -4 below -1; -1 no such HEIR.
  private static void sharing() {
    for (String call : new String[] {"shares", "dealt"}) {
      asks(HOUSE, call, a -> a < -1 ? BELOW : a >= PIECES ? NOBODY : FINE);
      asks("", call, a -> a < -1 ? BELOW : a >= 0 ? NOBODY : FINE);
    }
    for (int n = 2; n <= 4; n++) {
      int heirs = n;
      asks(HOUSE + "h" + n + ";", "choice", a -> a < -1 ? BELOW : a >= heirs ? NOBODY : FINE);
      asks("h" + n + ";", "choice", a -> a < -1 ? BELOW : a >= heirs ? NOBODY : FINE);
    }
  }

  // sell: -2.
  private static void selling() {
    asks(HOUSE, "sell", a -> a != 0 && a != 1 ? OTHER : FINE);
    asks("", "sell", a -> a != 0 && a != 1 ? OTHER : FINE);
  }

  // later: -4; -6 200. gone, whose, ask: -4; -6 999.
  private static void thinking() {
    for (String house : new String[] {HOUSE, "", SIX + "ip9999;"}) {
      asks(house, "later", a -> bounded(a, 0, 200));
      asks(house, "gone", a -> bounded(a, 0, 999));
      asks(house, "whose", a -> bounded(a, 0, 999));
      asks(house, "ask", a -> bounded(a, 0, 999));
    }
  }

  // wider: -1 any. bigger: -1 either.
  private static void stairs() {
    for (int floor : FEW_EDGES) {
      for (int piece : FEW_EDGES) {
        for (int room : FEW_EDGES) {
          boolean areAll = (floor == 1 || floor == 2) && isPiece(piece) && isPlace(room);
          new Twins(HOUSE).refusesOrTells(areAll ? FINE : NOBODY, "wider", floor, piece, room);
        }
      }
    }
    asks(HOUSE, "bigger", (a, b) -> isPiece(a) && isRoom(b) ? FINE : NOBODY);
    asks("", "bigger", (a, b) -> NOBODY);
    Twins.refused("", NOBODY, "wider", 1, 0, 0);
  }

  // row: -4; -6 (99; 12, too). fits: -1.
  private static void rows() {
    does(HOUSE, "row", a -> bounded(a, 0, 99));
    for (int a : EDGES) {
      new Twins(HOUSE, 11, "h3;").refusesOrDoes(bounded(a, 0, 99), "row", a);
      new Twins(HOUSE, 12, "h3;").refusesOrDoes(a < 0 ? BELOW : ABOVE, "row", a);
    }
    asks(HOUSE, "fits", a -> isPiece(a) ? FINE : NOBODY);
    asks("", "fits", a -> NOBODY);
  }

  // lots: -4; -6 20.
  private static void lots() {
    asks(HOUSE, "lots", (a, b) -> bounded(a, 1, 20));
  }

  // on: -3 there is none.
  private static void onFromNone() {
    BlameIsFurniture x = Due.told(HOUSE);
    Due.due("on from none", x.on(), STATE);
    Due.due("on from none again", x.on(), STATE);
    Due.refusals(x, 0, 0, 2, 0, 0, 0);
    Due.due("the pieces are as they were", x.count(0), PIECES);
    Due.due("they stand where they stood", x.count(5), 4);
    Due.due("image", x.image(), 0);
    Due.due("on", x.on(), 0);
    Due.refusals(x, 0, 0, 2, 0, 0, 0);
    Due.due("the pieces are as they were", x.count(0), PIECES);
  }

  // count: 11 .. 16 REFUSALS -1 .. -6. -9 for another what: it is no refusal.
  private static void counting() {
    for (int a : EDGES) {
      boolean isTold = a >= 0 && a <= 8 || a >= 11 && a <= 16;
      if (!isTold) {
        Twins.told(HOUSE, -9, "count", a);
      }
    }
    BlameIsFurniture x = Due.told("ip1900;");
    int[] often = new int[6];
    for (int time = 1; time <= 3; time++) {
      x.blame(6);
      x.piece(0, 7);
      x.polish(0);
      x.heirs(1);
      x.heirs(5);
      for (int i = 0; i < 6; i++) {
        often[i] = i == 4 ? 0 : time;
      }
      Due.refusals(x, often);
    }
    Due.due("count(10)", x.count(10), -9);
    Due.due("count(17)", x.count(17), -9);
  }

  // -9 says that there is none; it is no refusal.
  private static void noneIsNoRefusal() {
    Twins.told("ip9000;r004;m01;", -9, "placing", 1, 0, -1);
    Twins.told("ip9000;r004;m01;", -9, "placing", 1, 1, -1);
    Twins.told("ip9000;r004;m01;", -9, "placing", 1, 0, 0);
    Twins.told("ip9000;r008;r108;r208;r308;r408;r508;", -9, "innocent");
    Twins.told("", -9, "choice", -1);
    Twins.told("", -9, "sell", 0);
    Twins.told("", -9, "sell", 1);
    Twins.told("", -9, "burn");
    Twins.told("ip1500;", -9, "burn");
    Twins.told("", -9, "heavier");
    Twins.told("ip1900;", -9, "heavier");
    Twins.told("ic1199;", -9, "gone", 0);
    Twins.told("", -9, "ask", 0);
    Twins.told("ip1000;m00;", -9, "wider", 1, 0, 0);
    Twins.told("ip1000;m00;", -9, "bigger", 0, 0);
    Twins.told("ip1000;m00;", -9, "guest", 9);
    Twins.told("ip1000;m00;", -9, "guest", 1);
  }

  // What one asks of changes nothing (in thought alone years go by, pieces are carried, sold, burnt, polished).
  private static void asksChangeNothing() {
    String house = "y05;r020;iv5300;is2499;iw3599;it4705;ic2195;m00;m10;m22;m45;";
    String[] calls = {"worst", "crowded", "innocent", "envy", "burn", "heavier"};
    for (String call : calls) {
      new Twins(house).refusesOrTells(FINE, call);
    }
    for (int i = -1; i < 5; i++) {
      new Twins(house).refusesOrTells(FINE, "placing", 63, 0, i);
      new Twins(house).refusesOrTells(FINE, "placing", 63, 1, i);
      new Twins(house).refusesOrTells(FINE, "shares", i);
      new Twins(house).refusesOrTells(FINE, "dealt", i);
    }
    for (int a = 0; a < 5; a++) {
      new Twins(house, 12, "h3;").refusesOrTells(FINE, "fits", a);
      for (int b = 0; b <= 5; b++) {
        new Twins(house).refusesOrTells(FINE, "stands", a, b);
        new Twins(house).refusesOrTells(FINE, "wider", 1, a, b);
        new Twins(house).refusesOrTells(FINE, "wider", 2, a, b);
        new Twins(house).refusesOrTells(FINE, "bigger", a, b);
      }
    }
    for (int v = 0; v <= 60; v++) {
      new Twins(house).refusesOrTells(FINE, "later", v);
      new Twins(house).refusesOrTells(FINE, "gone", v);
      new Twins(house).refusesOrTells(FINE, "whose", v);
      new Twins(house).refusesOrTells(FINE, "ask", v);
    }
    new Twins(house).refusesOrTells(FINE, "lots", 20, 7);
  }

  // house: with a FAULT the letters are no more; nothing is counted, nothing changes.
  private static void faultsAreNoRefusals() {
    String[] texts = {"", "x", "ip100", "m39;", "h4;y09;h5;", "m12;p1;m12;", "ip1000;ip1000;ip1000;r020;s19;s29;h3;y59;y61;",
        "p0;r008;r520;m00;", "p0;y60;?"};
    int[] faults = {-1000, -1000, -1005, -2000, -2007, -2004, -2014, -2013, -1007};
    for (int i = 0; i < texts.length; i++) {
      new Twins(HOUSE, 3, texts[i]).hasFault(faults[i], new Twins(HOUSE, 3, ""));
    }
  }
}
