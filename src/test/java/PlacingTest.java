/** Promises 15 and 16: placing, innocent. */
final class PlacingTest {
  public static void main(String[] args) {
    worst();
    few();
    noPlacing();
    wrongCalls();
    innocent();
    Due.end("PlacingTest");
  }

  private static void rooms(BlameIsFurniture x, int set, int what, int... want) {
    Due.due("placing(" + set + ", " + what + ", -1)", x.placing(set, what, -1), want[0]);
    for (int i = 1; i < want.length; i++) {
      Due.due("placing(" + set + ", " + what + ", " + (i - 1) + ")", x.placing(set, what, i - 1), want[i]);
    }
  }

  private static void worst() {
    BlameIsFurniture x = Due.told("is4200;is4300;ip4100;");
    rooms(x, 63, 0, 3, 0, 1, 0);
    rooms(x, 10, 0, 3, 1, 3, 1);
    x.size(0, 4);
    rooms(x, 63, 0, 3, 0, 1, 2);
    rooms(x, 3, 0, 3, 1, 0, 1);
    x.carry(0, 5);
    x.carry(2, 5);
    rooms(x, 63, 0, 3, 0, 1, 2);
    Due.due("it stands where it stood", x.piece(0, 4), 5);
    x.wide(1, 0);
    rooms(x, 63, 0, 3, 0, 1, 2);
    BlameIsFurniture y = Due.told("r020;iw1100;ip1900;is1200;");
    rooms(y, 1, 0, 17, 0, 0, 0);
    rooms(y, 63, 0, 9, 0, 1, 0);
    rooms(y, 32, 0, 17, 5, 5, 5);
    rooms(y, 33, 0, 9, 0, 5, 0);
  }

  private static void few() {
    BlameIsFurniture x = Due.told("is4200;is4300;ip4100;");
    rooms(x, 63, 1, 2, 0, 0, 1);
    rooms(x, 10, 1, 2, 1, 1, 3);
    x.size(4, 12);
    rooms(x, 63, 1, 1, 4, 4, 4);
    rooms(x, 15, 1, 2, 0, 0, 1);
    BlameIsFurniture y = Due.told("ip5000;ip5000;ip4000;ip4000;ip9000;");
    rooms(y, 63, 1, 3, 0, 1, 0, 1, 2);
    rooms(y, 56, 1, 3, 3, 4, 3, 4, 5);
  }

  private static void noPlacing() {
    BlameIsFurniture x = Due.told("ip5000;ip5000;");
    rooms(x, 1, 0, -9, -9, -9);
    rooms(x, 1, 1, -9, -9, -9);
    x.size(0, 10);
    rooms(x, 1, 1, 1, 0, 0);
    BlameIsFurniture none = new BlameIsFurniture();
    rooms(none, 1, 0, 0);
    rooms(none, 63, 1, 0);
  }

  private static void wrongCalls() {
    BlameIsFurniture x = Due.told("ip1000;".repeat(6));
    Due.due("placing(0, 2, -1)", x.placing(0, 2, -1), -4);
    Due.due("placing(-1, 0, -1)", x.placing(-1, 0, -1), -4);
    Due.due("placing(64, 2, -2)", x.placing(64, 2, -2), -4);
    Due.due("placing(64, 2, -1)", x.placing(64, 2, -1), -6);
    Due.due("placing(63, 2, 9)", x.placing(63, 2, 9), -2);
    Due.due("placing(63, -1, 9)", x.placing(63, -1, 9), -2);
    Due.due("placing(63, 0, 9)", x.placing(63, 0, 9), -3);
    Due.due("placing(63, 1, -1)", x.placing(63, 1, -1), -3);
    Due.refusals(x, 0, 2, 2, 3, 0, 1);
    BlameIsFurniture five = Due.told("ip1000;".repeat(5));
    Due.due("placing(63, 0, 5)", five.placing(63, 0, 5), -1);
    Due.due("placing(63, 0, 4)", five.placing(63, 0, 4), 0);
    Due.refusals(five, 1, 0, 0, 0, 0, 0);
  }

  private static void innocent() {
    BlameIsFurniture x = Due.told("is4200;is4300;ip4100;m05;");
    Due.due("innocent", x.innocent(), 4);
    x.size(0, 20);
    Due.due("innocent in one room", x.innocent(), 5);
    for (int room = 0; room < 5; room++) {
      x.size(room, 3);
    }
    x.size(5, 11);
    Due.due("innocent not at all", x.innocent(), -9);
    Due.due("of none", new BlameIsFurniture().innocent(), 6);
    BlameIsFurniture six = Due.told("ip1000;".repeat(6));
    Due.due("of six", six.innocent(), -3);
    Due.refusals(six, 0, 0, 1, 0, 0, 0);
    Due.due("of five", Due.told("ip9000;".repeat(5)).innocent(), 1);
  }
}
