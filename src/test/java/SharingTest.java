/** Promises 17 to 20: shares, dealt, envy, choice. */
final class SharingTest {
  public static void main(String[] args) {
    fairShares();
    dealing();
    envy();
    choosing();
    Due.end("SharingTest");
  }

  private static void shared(BlameIsFurniture x, int... want) {
    Due.due("shares(-1)", x.shares(-1), want[0]);
    for (int i = 1; i < want.length; i++) {
      Due.due("shares(" + (i - 1) + ")", x.shares(i - 1), want[i]);
    }
  }

  private static void dealtOut(BlameIsFurniture x, int... want) {
    Due.due("dealt(-1)", x.dealt(-1), want[0]);
    for (int i = 1; i < want.length; i++) {
      Due.due("dealt(" + (i - 1) + ")", x.dealt(i - 1), want[i]);
    }
  }

  private static void fairShares() {
    BlameIsFurniture x = Due.told("ip1500;ip1400;ip1300;");
    shared(x, 2, 0, 1, 1);
    x.heirs(3);
    shared(x, 2, 0, 1, 2);
    x.heirs(4);
    shared(x, 5, 0, 1, 2);
    Due.due("shares(-2)", x.shares(-2), -4);
    Due.due("shares(3)", x.shares(3), -1);
    Due.refusals(x, 1, 0, 0, 1, 0, 0);
    shared(Due.told("ip1300;ip1300;ip1200;ip1200;ip1200;"), 0, 0, 0, 1, 1, 1);
    shared(Due.told("ip1000;ip1000;"), 0, 0, 0);
    shared(new BlameIsFurniture(), 0);
    BlameIsFurniture suites = Due.told("is1300;iw1100;ip1500;");
    shared(suites, 0, 0, 0, 1);
    suites.carry(0, 3);
    suites.carry(1, 3);
    shared(suites, 4, 0, 0, 1);
  }

  private static void dealing() {
    BlameIsFurniture x = Due.told("ip1300;ip1300;ip1200;ip1200;ip1200;");
    dealtOut(x, 2, 0, 1, 0, 1, 0);
    x.heirs(3);
    dealtOut(x, 2, 0, 1, 2, 2, 0);
    x.heirs(4);
    dealtOut(x, 2, 0, 1, 2, 3, 2);
    dealtOut(new BlameIsFurniture(), 0);
    dealtOut(Due.told("ip1000;ip1000;ip1100;ip1000;"), 1, 0, 0, 0, 1);
    Due.due("dealt(-2)", x.dealt(-2), -4);
    Due.due("dealt(5)", x.dealt(5), -1);
    Due.refusals(x, 1, 0, 0, 1, 0, 0);
  }

  private static void envy() {
    BlameIsFurniture x = Due.told("ip1500;ip1400;ip1300;");
    Due.due("5 and 7", x.envy(), 1);
    x.heirs(3);
    Due.due("5, 4 and 3", x.envy(), 2);
    x.heirs(4);
    Due.due("5, 4, 3 and 0", x.envy(), 3);
    BlameIsFurniture one = Due.told("ip1400;h4;");
    Due.due("4, 0, 0 and 0", one.envy(), 1);
    Due.due("nothing", new BlameIsFurniture().envy(), 0);
    Due.due("by the fairest, not as it is dealt", Due.told("ip1300;ip1300;ip1200;ip1200;ip1200;").envy(), 0);
  }

  private static void choosing() {
    BlameIsFurniture x = Due.told("ip1500;ip1400;ip1300;ip1400;h3;");
    int[] want = {8, 4, 4};
    for (int heir = 0; heir < 3; heir++) {
      Due.due("choice(" + heir + ")", x.choice(heir), want[heir]);
    }
    Due.due("choice(-1)", x.choice(-1), 0);
    Due.due("choice(3)", x.choice(3), -1);
    Due.due("choice(-2)", x.choice(-2), -4);
    x.heirs(4);
    Due.due("choice(-1) of four", x.choice(-1), 3);
    Due.due("choice(3) of four", x.choice(3), 5);
    x.heirs(2);
    Due.due("choice(0) of two", x.choice(0), 7);
    Due.due("choice(1) of two", x.choice(1), 9);
    Due.due("choice(-1) of two", x.choice(-1), 1);
    Due.refusals(x, 1, 0, 0, 1, 0, 0);
    BlameIsFurniture none = new BlameIsFurniture();
    Due.due("choice(-1) of nothing", none.choice(-1), -9);
    Due.due("choice(1) of nothing", none.choice(1), 0);
    Due.due("choice(2) of nothing", none.choice(2), -1);
  }
}
