/** Promises 28 to 30: wider, bigger, guest. */
final class StairsTest {
  public static void main(String[] args) {
    wider();
    bigger();
    guests();
    Due.end("StairsTest");
  }

  private static void wider() {
    BlameIsFurniture x = Due.told("ip5000;iw5000;m00;m12;");
    Due.due("up to floor 1", x.wider(1, 0, 3), 5);
    Due.due("the other stairs", x.wider(2, 0, 3), 0);
    Due.due("up to floor 2", x.wider(1, 0, 4), 5);
    Due.due("up to floor 2", x.wider(2, 0, 4), 5);
    x.wide(2, 4);
    Due.due("the other stairs are narrow", x.wider(1, 0, 4), -9);
    Due.due("these alone are narrow", x.wider(2, 0, 4), 5);
    Due.due("on its floor", x.wider(1, 0, 1), 0);
    Due.due("its own room", x.wider(1, 0, 0), -9);
    Due.due("no space", x.wider(1, 0, 2), -9);
    Due.due("to the attic", x.wider(1, 0, 9), 0);
    Due.due("a wardrobe never", x.wider(1, 1, 0), -9);
    Due.due("a wardrobe on its floor", x.wider(1, 1, 3), 0);
    Due.due("the stairs are as they were", x.wide(1, 6), 6);
    Due.due("the stairs are as they were", x.wide(2, 9), 4);
    Due.due("the widest stairs", Due.told("ip9000;m00;").wider(1, 0, 2), 9);
    Due.due("no stairs are so narrow", Due.told("iv1000;m00;").wider(1, 0, 2), 0);
    x.carry(0, 5);
    Due.due("down", x.wider(2, 0, 3), 5);
    Due.due("from the attic", Due.told("ip9000;").wider(2, 0, 5), 0);
    Due.due("from the attic to it", Due.told("ip9000;").wider(2, 0, 9), -9);
    Due.due("wider(0, 0, 0)", x.wider(0, 0, 0), -1);
    Due.due("wider(3, 0, 0)", x.wider(3, 0, 0), -1);
    Due.due("wider(1, 2, 0)", x.wider(1, 2, 0), -1);
    Due.due("wider(1, -1, 0)", x.wider(1, -1, 0), -1);
    Due.due("wider(1, 0, 6)", x.wider(1, 0, 6), -1);
    Due.due("wider(1, 0, 10)", x.wider(1, 0, 10), -1);
    Due.refusals(x, 6, 0, 0, 0, 0, 0);
  }

  private static void bigger() {
    BlameIsFurniture x = Due.told("r120;ip5000;ip9000;ip8000;ip4000;m01;m11;m23;");
    Due.due("an empty one", x.bigger(0, 0), 5);
    Due.due("with another", x.bigger(0, 3), 13);
    Due.due("more than 20", x.bigger(2, 1), -9);
    Due.due("18 and 2", x.bigger(3, 1), 18);
    Due.due("its own", x.bigger(0, 1), -9);
    x.wide(1, 4);
    Due.due("the stairs are narrow", x.bigger(0, 3), -9);
    Due.due("the size is as it was", x.count(6), 65);
    Due.due("bigger(4, 0)", x.bigger(4, 0), -1);
    Due.due("bigger(-1, 0)", x.bigger(-1, 0), -1);
    Due.due("bigger(0, 6)", x.bigger(0, 6), -1);
    Due.due("bigger(0, -1)", x.bigger(0, -1), -1);
    Due.due("the attic has no size", x.bigger(0, 9), -1);
    Due.refusals(x, 5, 0, 0, 0, 0, 0);
    BlameIsFurniture twenty = Due.told("r020;ip9000;ip9000;ip2000;ip3000;m00;m10;");
    Due.due("just 20", twenty.bigger(2, 0), 20);
    Due.due("21", twenty.bigger(3, 0), -9);
  }

  private static void guests() {
    BlameIsFurniture x = Due.told("ip1500;ip1300;ip1300;ip1100;m02;m12;m22;");
    Due.due("guest(2)", x.guest(2), 1);
    Due.due("guest(9)", x.guest(9), 3);
    Due.due("guest(0)", x.guest(0), -9);
    for (int room : new int[] {-1, 6, 8, 10}) {
      Due.due("guest(" + room + ")", x.guest(room), -1);
    }
    Due.refusals(x, 4, 0, 0, 0, 0, 0);
    Due.due("the first", Due.told("ip1000;ip1000;").guest(9), 0);
    Due.due("by blame, not by fault", Due.told("iw1300;ip1400;").guest(9), 1);
  }
}
