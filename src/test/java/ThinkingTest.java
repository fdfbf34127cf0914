/** Promises 21 to 27: sell, burn, heavier, later, gone, whose, ask. */
final class ThinkingTest {
  public static void main(String[] args) {
    selling();
    burning();
    heavier();
    later();
    gone();
    whose();
    asking();
    Due.end("ThinkingTest");
  }

  private static void selling() {
    BlameIsFurniture x = Due.told("ip1400;ip1700;ip1700;");
    Due.due("sell(0)", x.sell(0), 1);
    Due.due("sell(1)", x.sell(1), 11);
    Due.due("sell(2)", x.sell(2), -2);
    Due.due("sell(-1)", x.sell(-1), -2);
    Due.due("nothing is sold", x.count(0), 3);
    Due.refusals(x, 0, 2, 0, 0, 0, 0);
    BlameIsFurniture veneer = Due.told("iv1400;ip1500;ip1000;");
    Due.due("the veneer's next", veneer.sell(0), 1);
    Due.due("then it has another next", veneer.sell(1), 2);
    BlameIsFurniture suites = Due.told("r020;ip1500;is1000;is1000;is1000;m10;m20;m30;");
    Due.due("a suite takes its company along", suites.sell(0), 1);
    Due.due("and what is left", suites.sell(1), 9);
    BlameIsFurniture one = Due.told("ip1400;");
    Due.due("the only one", one.sell(0), 0);
    Due.due("leaves nothing", one.sell(1), 0);
    BlameIsFurniture none = new BlameIsFurniture();
    Due.due("none to sell", none.sell(0), -9);
    Due.due("none to sell", none.sell(1), -9);
    Due.due("none to sell", none.sell(3), -2);
  }

  private static void burning() {
    Due.due("burn", Due.told("ip1400;ip1700;ip1500;ip1700;").burn(), 13);
    Due.due("of several the least", Due.told("ip1700;ip1700;ip1700;").burn(), 1);
    Due.due("the last two", Due.told("ip1100;ip1200;ip1300;ip1400;ip1500;ip1600;ip1700;").burn(), 56);
    Due.due("two", Due.told("ip1000;ip1000;").burn(), 1);
    Due.due("one", Due.told("ip1900;").burn(), -9);
    Due.due("none", new BlameIsFurniture().burn(), -9);
    // Without 1 and 2 the veneer's next is the last: 2 and 3; else at least 2 and 4 and 3.
    Due.due("a veneer's next", Due.told("iv1400;ip1400;ip1500;ip1100;").burn(), 12);
    BlameIsFurniture x = Due.told("ip1400;ip1700;ip1500;");
    x.burn();
    Due.due("nothing is burnt", x.count(0), 3);
  }

  private static void heavier() {
    Due.due("none can be", Due.told("ip1900;iw1900;").heavier(), -9);
    Due.due("none there", new BlameIsFurniture().heavier(), -9);
    Due.due("of several the least", Due.told("ip1300;ip1400;").heavier(), 0);
    Due.due("a wardrobe", Due.told("ip1300;iw1400;").heavier(), 1);
    Due.due("a wardrobe that can not be", Due.told("ip1300;iw1900;").heavier(), 0);
    Due.due("a veneer's next", Due.told("ip1300;iv1200;ip1400;").heavier(), 2);
    BlameIsFurniture x = Due.told("iv1100;");
    Due.due("half of two more", x.heavier(), 0);
    Due.due("nothing is polished", x.piece(0, 2), 1);
  }

  private static void later() {
    BlameIsFurniture x = Due.told("ip1500;ic1285;");
    int[] years = {0, 4, 5, 9, 10, 14, 15, 50, 200};
    int[] want = {15, 15, 16, 16, 15, 15, 15, 11, 11};
    for (int i = 0; i < years.length; i++) {
      Due.due("later(" + years[i] + ")", x.later(years[i]), want[i]);
    }
    Due.due("later(-1)", x.later(-1), -4);
    Due.due("later(201)", x.later(201), -6);
    Due.due("no year went by", x.count(1), 0);
    Due.due("none is older", x.piece(1, 3), 85);
    Due.refusals(x, 0, 0, 0, 1, 0, 1);
    BlameIsFurniture last = Due.told("y60;".repeat(16) + "y39;");
    Due.due("at 999", Due.tell(last, "ip1500;"), 1);
    Due.due("behind 999", last.later(1), 4);
    Due.due("behind 999", last.later(11), 3);
    Due.due("it is 999 still", last.count(1), 999);
  }

  private static void gone() {
    BlameIsFurniture x = Due.told("ip1500;");
    int[] v = {999, 5, 4, 3, 0};
    int[] want = {0, 0, 10, 20, 50};
    for (int i = 0; i < v.length; i++) {
      Due.due("gone(" + v[i] + ")", x.gone(v[i]), want[i]);
    }
    Due.due("gone(-1)", x.gone(-1), -4);
    Due.due("gone(1000)", x.gone(1000), -6);
    Due.refusals(x, 0, 0, 0, 1, 0, 1);
    x.years(7);
    Due.due("from the year that it is", x.gone(4), 3);
    Due.due("no year went by", x.count(1), 7);
    Due.due("a clock is never gone", Due.told("ic1100;").gone(0), -9);
    Due.due("more behind it matters not", Due.told("ic1000;").gone(0), 0);
    Due.due("the clock grows older first", Due.told("ic1005;ip1500;").gone(4), -9);
    Due.due("an old clock", Due.told("ic1099;ip1500;").gone(9), 50);
    Due.due("nothing", new BlameIsFurniture().gone(0), 0);
  }

  private static void whose() {
    BlameIsFurniture x = Due.told("ip1300;ip1400;");
    int[] v = {0, 2, 3, 4, 7, 8, 12, 13, 14, 999};
    int[] want = {0, 0, 2, 3, 0, 3, 3, 1, 0, 0};
    for (int i = 0; i < v.length; i++) {
      Due.due("whose(" + v[i] + ")", x.whose(v[i]), want[i]);
    }
    Due.due("whose(-1)", x.whose(-1), -4);
    Due.due("whose(1000)", x.whose(1000), -6);
    Due.due("the faults are as they were", x.count(4), 7);
    Due.refusals(x, 0, 0, 0, 1, 0, 1);
    Due.due("another fault, the same blame", Due.told("iv1400;").whose(2), 1);
    Due.due("by the veneer and by its next", Due.told("iv1400;ip1100;").whose(8), 2);
  }

  private static void asking() {
    BlameIsFurniture x = Due.told("ip1300;ip1400;");
    int[] v = {0, 3, 4, 8, 9, 13, 999};
    int[] want = {0, 0, 1, 1, 0, 0, 0};
    for (int i = 0; i < v.length; i++) {
      Due.due("ask(" + v[i] + ")", x.ask(v[i]), want[i]);
    }
    Due.due("ask(-1)", x.ask(-1), -4);
    Due.due("ask(1000)", x.ask(1000), -6);
    Due.refusals(x, 0, 0, 0, 1, 0, 1);
    Due.due("only 9 is v or more", Due.told("ip1400;ip1300;").ask(13), 1);
    Due.due("4 and 6, 6 and 4", Due.told("ip1300;ip1500;").ask(9), 0);
    Due.due("nobody to ask", new BlameIsFurniture().ask(0), -9);
    Due.due("nobody to ask, and no such number", new BlameIsFurniture().ask(1000), -6);
  }
}
