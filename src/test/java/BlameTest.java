/** Promises 12 to 14: blame, worst, crowded. */
final class BlameTest {
  public static void main(String[] args) {
    blames();
    worsts();
    crowds();
    Due.end("BlameTest");
  }

  private static void blames() {
    BlameIsFurniture x = Due.told("ip1300;is1400;iw1100;ip1900;m00;m14;m24;");
    int[] want = {3, 0, 0, 0, 10};
    for (int room = 0; room < 5; room++) {
      Due.due("blame(" + room + ")", x.blame(room), want[room]);
    }
    Due.due("blame(9)", x.blame(9), 9);
    Due.due("blame(10)", x.blame(10), 22);
    for (int room : new int[] {-1, 6, 7, 8, 11}) {
      Due.due("blame(" + room + ")", x.blame(room), -1);
    }
    Due.refusals(x, 5, 0, 0, 0, 0, 0);
    BlameIsFurniture most = Due.told("r020;" + "iw1900;".repeat(7));
    for (int i = 0; i < 7; i++) {
      most.carry(i, 0);
    }
    Due.due("the most blame", most.blame(10), 210);
    Due.due("the most blame in a room", most.blame(0), 210);
  }

  private static void worsts() {
    BlameIsFurniture x = Due.told("ip1300;ip1300;ip1900;m02;");
    Due.due("worst", x.worst(), 2);
    x.carry(1, 1);
    Due.due("of two the least", x.worst(), 1);
    x.polish(0);
    Due.due("it has more now", x.worst(), 2);
    x.carry(2, 5);
    Due.due("the last room", x.worst(), 5);
    Due.due("nobody stands", Due.told("ip1900;").worst(), 0);
    Due.due("no blame", Due.told("ip1000;m03;").worst(), 0);
  }

  private static void crowds() {
    BlameIsFurniture x = Due.told("ip9000;ip8000;ip1000;m00;m15;");
    Due.due("crowded", x.crowded(), 1);
    x.carry(2, 5);
    Due.due("crowded", x.crowded(), 33);
    x.size(0, 10);
    Due.due("crowded", x.crowded(), 32);
    x.size(3, 0);
    Due.due("crowded", x.crowded(), 40);
    x.size(3, 1);
    Due.due("crowded", x.crowded(), 32);
    Due.due("a new house", new BlameIsFurniture().crowded(), 0);
  }
}
