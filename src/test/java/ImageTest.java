/** Promises 34 to 37: lots, image, on, count. */
final class ImageTest {
  public static void main(String[] args) {
    lots();
    lotsByHand();
    images();
    whatAnImageIsNot();
    counts();
    Due.end("ImageTest");
  }

  private static void lots() {
    BlameIsFurniture x = Due.told("is1000;is1000;");
    // From 0 the draws are 5 3, 0 5, 1 2, 2 5, 0 3: never both in one room.
    Due.due("lots(5, 0)", x.lots(5, 0), 0);
    Due.due("the pieces are where they were", x.count(5), 0);
    Due.due("lots(0, 0)", x.lots(0, 0), -4);
    Due.due("lots(21, 0)", x.lots(21, 0), -6);
    Due.refusals(x, 0, 0, 0, 1, 0, 1);
    BlameIsFurniture one = Due.told("ip9700;r000;r100;r200;r300;r400;r500;");
    Due.due("the size matters not", one.lots(20, 123), 140);
    Due.due("of nothing", new BlameIsFurniture().lots(20, 5), 0);
    // From 0 the first three are in 5, 3, 0, the next in 5, 1, 2.
    Due.due("lots(2, 0)", Due.told("ip1300;ip1400;ip1200;").lots(2, 0), 8);
  }

  private static void lotsByHand() {
    BlameIsFurniture x = Due.told("ip1700;ip1500;ip1300;ip1900;");
    for (int seed : new int[] {1, -1, 77, Integer.MIN_VALUE, Integer.MAX_VALUE, 1013904223}) {
      for (int n = 1; n <= 20; n++) {
        Due.due("lots(" + n + ", " + seed + ")", x.lots(n, seed), drawn(n, seed, 7, 5, 3, 9));
      }
    }
  }

  private static long drawn(int n, int seed, int... faults) {
    long z = seed & 0xffffffffL;
    long sum = 0;
    for (int house = 0; house < n; house++) {
      long[] rooms = new long[6];
      for (int fault : faults) {
        z = (z * 1664525 + 1013904223) % (1L << 32);
        rooms[(int) (z % (1L << 31) / 256 % 6)] += fault;
      }
      sum += java.util.Arrays.stream(rooms).max().getAsLong();
    }
    return sum;
  }

  private static void images() {
    BlameIsFurniture x = Due.told("ip1500;is2399;y05;");
    Due.due("on", x.on(), -3);
    Due.due("image", x.image(), 5);
    Due.due("a house behind it", Due.tell(x, "m03;ic1100;r315;s12;s29;h4;y20;p1;"), 8);
    Due.due("on", x.on(), 5);
    int[] counts = {2, 5, 2, 3, 8, 0, 54, 0, 0};
    for (int what = 0; what < counts.length; what++) {
      Due.due("count(" + what + ")", x.count(what), counts[what]);
    }
    Due.due("age", x.piece(0, 3), 5);
    Due.due("room", x.piece(0, 4), 9);
    Due.due("wide(1)", x.wide(1, 6), 6);
    Due.due("wide(2)", x.wide(2, 6), 6);
    Due.due("size(3)", x.size(3, 9), 9);
    x.years(10);
    Due.due("on again", x.on(), 5);
    x.years(10);
    Due.due("another image", x.image(), 15);
    x.years(1);
    Due.due("on from the other", x.on(), 15);
    Due.refusals(x, 0, 0, 1, 0, 0, 0);
  }

  private static void whatAnImageIsNot() {
    BlameIsFurniture x = new BlameIsFurniture();
    x.image();
    x.row(4);
    x.row(5);
    x.letter('h');
    x.heirs(9);
    x.years(3);
    Due.due("on", x.on(), 0);
    Due.due("the row stays", x.count(7), 2);
    Due.due("the letters stay", x.count(8), 1);
    Due.due("the refusals stay", x.count(16), 1);
    x.judge();
    x.house();
    x.on();
    Due.due("the row has none", x.count(7), 0);
    Due.due("no letters", x.count(8), 0);
  }

  private static void counts() {
    BlameIsFurniture x = Due.told("ip3500;is4600;ip1100;m03;m14;m04;y01;h3;r520;");
    x.row(7);
    x.letter('?');
    int[] want = {3, 1, 3, 8, 12, 2, 65, 1, 1, -9, -9, 0, 0, 0, 0, 0, 0, -9};
    for (int what = 0; what < want.length; what++) {
      Due.due("count(" + what + ")", x.count(what), want[what]);
    }
    Due.due("count(-1)", x.count(-1), -9);
    x.piece(9, 0);
    x.piece(0, 9);
    x.carry(0, 4);
    x.later(-1);
    x.later(201);
    Due.refusals(x, 1, 1, 1, 1, 0, 1);
    x.gone(1);
    x.wider(1, 0, 4);
    x.burn();
    x.sell(0);
    Due.refusals(x, 1, 1, 1, 1, 0, 1);
  }
}
