/** Promises 31 to 33: row, fits, judge. */
final class RowTest {
  public static void main(String[] args) {
    rows();
    fitting();
    judging();
    Due.end("RowTest");
  }

  private static void add(BlameIsFurniture x, int... numbers) {
    for (int i = 0; i < numbers.length; i++) {
      Due.due("row(" + numbers[i] + ")", x.row(numbers[i]), i + 1);
    }
  }

  private static void rows() {
    BlameIsFurniture x = new BlameIsFurniture();
    Due.due("row(-1)", x.row(-1), -4);
    Due.due("row(100)", x.row(100), -6);
    add(x, 0, 99, 0, 0, 0, 0, 0, 0, 0, 0, 0, 0);
    Due.due("the 13th", x.row(0), -6);
    Due.due("the 13th below 0", x.row(-1), -4);
    Due.due("in the row", x.count(7), 12);
    Due.refusals(x, 0, 0, 0, 2, 0, 2);
    x.judge();
    Due.due("none in the row", x.count(7), 0);
    Due.due("the first again", x.row(5), 1);
  }

  private static void fitting() {
    BlameIsFurniture x = Due.told("ip1499;ip1200;");
    Due.due("any kind", x.fits(0), 63);
    Due.due("fits(2)", x.fits(2), -1);
    Due.due("fits(-1)", x.fits(-1), -1);
    // Plain 6, suite 6, veneer 2 + 2 + 2, clock 4 + 9 + 2, wardrobe 8 + 2, table 2 + 2.
    add(x, 6, 6);
    Due.due("plain, suite, veneer", x.fits(0), 7);
    Due.due("the row stays", x.count(7), 2);
    Due.due("its kind stays", x.piece(0, 0), 0);
    x.judge();
    add(x, 15);
    Due.due("a clock", x.fits(0), 8);
    x.judge();
    add(x, 10);
    Due.due("a wardrobe", x.fits(0), 16);
    x.judge();
    add(x, 4);
    Due.due("a table", x.fits(0), 32);
    x.judge();
    add(x, 7);
    Due.due("none", x.fits(0), 0);
    Due.refusals(x, 2, 0, 0, 0, 0, 0);
    BlameIsFurniture years = Due.told("ip1400;y08;");
    add(years, 4, 4, 3);
    Due.due("what is worn", years.fits(0), 3);
    BlameIsFurniture clock = Due.told("ic1400;y08;");
    add(clock, 4, 4, 5);
    Due.due("a clock grows older", clock.fits(0), 8);
  }

  private static void judging() {
    BlameIsFurniture x = Due.told("ip1500;y08;");
    Due.due("an empty row", x.judge(), -9);
    add(x, 5, 5, 4);
    Due.due("all are so", x.judge(), -9);
    Due.due("none in the row", x.count(7), 0);
    add(x, 5, 5, 5, 4);
    Due.due("the third is not", x.judge(), 2);
    Due.due("none in the row", x.count(7), 0);
    add(x, 4);
    Due.due("the first is not", x.judge(), 0);
    Due.due("no year went by", x.count(1), 8);
    BlameIsFurniture much = Due.told("iw1900;".repeat(6));
    add(much, 99, 99);
    Due.due("108 is 99", much.judge(), -9);
    add(much, 99, 98);
    Due.due("108 is not 98", much.judge(), 1);
    Due.due("99 is 99", x.row(99), 1);
    Due.due("5 is not 99", x.judge(), 0);
    BlameIsFurniture last = Due.told("y60;".repeat(16) + "y39;");
    Due.due("at 999", Due.tell(last, "ip1500;"), 1);
    add(last, 5, 4);
    Due.due("behind 999", last.judge(), -9);
  }
}
