/** Promises 15 to 37 and the second part of the Terms: what is told of several alike, of none, of the least and the greatest. */
final class ThoughtEdgesTest {
  private static final String AT_999 = "y60;".repeat(16) + "y39;";

  public static void main(String[] args) {
    placedFromTheAttic();
    placedInToldRooms();
    placedBySize();
    placedFirst();
    placedFew();
    innocent();
    shared();
    dealt();
    envied();
    chosen();
    sold();
    burnt();
    heavier();
    later();
    gone();
    whose();
    asked();
    wider();
    bigger();
    guests();
    judged();
    fitting();
    lots();
    drawn();
    imaged();
    counted();
    Due.end("ThoughtEdgesTest");
  }

  private static void placed(BlameIsFurniture x, int set, int what, int... want) {
    Due.due("placing(" + set + ", " + what + ", -1)", x.placing(set, what, -1), want[0]);
    for (int i = 1; i < want.length; i++) {
      Due.due("placing(" + set + ", " + what + ", " + (i - 1) + ")", x.placing(set, what, i - 1), want[i]);
    }
  }

  // "all PIECES from the attic": where they stand now takes no space and matters not.
  private static void placedFromTheAttic() {
    BlameIsFurniture x = Due.told("ip9500;ip9400;m01;m10;");
    placed(x, 3, 0, 5, 0, 1);
    placed(x, 3, 1, 2, 0, 1);
    placed(x, 1, 0, -9, -9, -9);
    x.carry(1, 9);
    placed(x, 2, 0, -9, -9, -9);
    BlameIsFurniture one = Due.told("ip9500;m03;");
    placed(one, 8, 0, 5, 3);
    placed(one, 8, 1, 1, 3);
    Due.due("innocent", one.innocent(), 5);
    Due.due("it stands where it stood", one.piece(0, 4), 3);
    BlameIsFurniture suites = Due.told("is1500;is1400;m03;m13;");
    placed(suites, 63, 0, 5, 0, 1);
    placed(suites, 8, 0, 5 + 4 + 4, 3, 3);
  }

  // "into ROOMS of a told set"
  private static void placedInToldRooms() {
    for (int set = 1; set <= 63; set++) {
      BlameIsFurniture x = Due.told("ip1500;ip1400;");
      int first = Integer.numberOfTrailingZeros(set);
      boolean isOne = Integer.bitCount(set) == 1;
      int second = Integer.numberOfTrailingZeros(set & set - 1);
      placed(x, set, 0, isOne ? 9 : 5, first, isOne ? first : second);
      placed(x, set, 1, 1, first, first);
    }
  }

  // "(by SIZE alone; STAIRS matter not, they are let down)"
  private static void placedBySize() {
    BlameIsFurniture x = Due.told("iw5300;iw4300;s10;s20;m00;");
    placed(x, 32, 0, 3 + 3 + 2 + 3 + 3 + 2, 5, 5);
    placed(x, 48, 0, 6, 4, 5);
    x.size(5, 8);
    placed(x, 32, 0, -9, -9, -9);
    placed(x, 32, 1, -9, -9, -9);
    placed(x, 48, 0, 6, 4, 5);
    x.size(4, 4);
    placed(x, 48, 0, 6, 5, 4);
    x.size(5, 4);
    placed(x, 48, 0, -9, -9, -9);
    Due.due("the wardrobe stands where it stood", x.piece(0, 4), 0);
  }

  // "WORST: the least BLAME that the ROOM with most can have"; "the first such by PIECES (ROOMS rising)"
  private static void placedFirst() {
    placed(new BlameIsFurniture(), 63, 0, 0);
    placed(new BlameIsFurniture(), 1, 1, 0);
    placed(Due.told("ip1000;ip1000;"), 63, 0, 0, 0, 0);
    placed(Due.told("ip1000;ip1000;"), 62, 0, 0, 1, 1);
    placed(Due.told("ip1100;ip1300;ip1200;"), 63, 0, 3, 0, 1, 0);
    placed(Due.told("ip1100;ip1300;ip1200;ip1300;ip1300;"), 63, 0, 3, 0, 1, 0, 2, 3);
    placed(Due.told("ip1100;ip1300;ip1200;ip1300;ip1300;"), 3, 0, 6, 0, 0, 0, 1, 1);
    placed(Due.told("is1000;is1000;is1000;"), 63, 0, 0, 0, 1, 2);
    placed(Due.told("is1000;is1000;is1000;ip1400;"), 63, 0, 4, 0, 0, 1, 1);
    placed(Due.told("is1000;is1000;ip1300;"), 63, 0, 3, 0, 1, 0);
    // The last one is greater than all the others, who may stand together as long as they have no more.
    placed(Due.told("ip1200;ip1300;ip1400;ip1000;ip1900;"), 63, 0, 9, 0, 0, 0, 0, 1);
    placed(Due.told("iv1200;ip1900;"), 63, 0, 10, 0, 1);
    placed(Due.told("ip9900;ip9900;ip9900;ip9900;ip9900;"), 62, 0, 9, 1, 2, 3, 4, 5);
    placed(Due.told("ip9900;ip9900;ip9900;ip9900;ip9900;"), 60, 0, -9, -9, -9, -9, -9, -9);
  }

  // "FEW: in how few ROOMS they can stand"
  private static void placedFew() {
    placed(Due.told("ip3000;ip3000;ip3000;ip1000;"), 63, 1, 2, 0, 0, 0, 1);
    placed(Due.told("ip1000;ip9000;"), 63, 1, 2, 0, 1);
    placed(Due.told("r510;ip1000;ip9000;"), 63, 1, 1, 5, 5);
    placed(Due.told("r510;ip1000;ip9000;"), 31, 1, 2, 0, 1);
    placed(Due.told("r120;r220;ip5000;ip5000;ip5000;ip5000;"), 63, 1, 1, 1, 1, 1, 1);
    placed(Due.told("r120;r220;ip5000;ip5000;ip5000;ip5000;"), 60, 1, 1, 2, 2, 2, 2);
    placed(Due.told("ip5000;ip5000;ip5000;ip5000;ip5000;"), 62, 1, 5, 1, 2, 3, 4, 5);
    placed(Due.told("ip5000;ip5000;ip5000;ip5000;ip5000;"), 60, 1, -9, -9, -9, -9, -9, -9);
  }

  // "INNOCENT: the most ROOMS (of all six) that can stay empty, all placed; -9."
  private static void innocent() {
    Due.due("of none", new BlameIsFurniture().innocent(), 6);
    for (int n = 1; n <= 5; n++) {
      Due.due(n + " of bulk 5", Due.told("ip5000;".repeat(n)).innocent(), 6 - n);
      Due.due(n + " of bulk 1", Due.told("ip1000;".repeat(n)).innocent(), 5);
    }
    Due.due("in the last room", Due.told("ip9000;r008;r108;r208;r308;r408;").innocent(), 5);
    Due.due("in no room", Due.told("ip9000;r008;r108;r208;r308;r408;r508;").innocent(), -9);
    Due.due("where they stand matters not", Due.told("ip5000;ip4000;m00;m15;").innocent(), 5);
    Due.due("all five but one", Due.told("ip1000;ip1000;ip1000;ip1000;ip9000;r008;r108;r208;r308;r408;r508;").innocent(), -9);
  }

  private static void shares(BlameIsFurniture x, String call, int... want) {
    Due.due(call + "(-1)", Calls.call(x, call, -1, 0, 0), want[0]);
    for (int i = 1; i < want.length; i++) {
      Due.due(call + "(" + (i - 1) + ")", Calls.call(x, call, i - 1, 0, 0), want[i]);
    }
  }

  // "the least by which the greatest share is above the least; .. the first such (by PIECES, HEIRS rising)"
  private static void shared() {
    for (int n = 2; n <= 4; n++) {
      shares(Due.told("h" + n + ";"), "shares", 0);
      shares(Due.told("ip1000;h" + n + ";"), "shares", 0, 0);
      shares(Due.told("ip1700;h" + n + ";"), "shares", 7, 0);
    }
    shares(Due.told("ip1100;ip1100;h2;"), "shares", 0, 0, 1);
    shares(Due.told("ip1100;ip1100;h3;"), "shares", 1, 0, 1);
    shares(Due.told("ip1100;ip1100;h4;"), "shares", 1, 0, 1);
    shares(Due.told("ip1100;ip1200;ip1300;h2;"), "shares", 0, 0, 0, 1);
    shares(Due.told("ip1300;ip1200;ip1100;h2;"), "shares", 0, 0, 1, 1);
    shares(Due.told("ip1100;ip1000;ip1000;h2;"), "shares", 1, 0, 0, 0);
    shares(Due.told("ip1900;ip1100;ip1100;h2;"), "shares", 7, 0, 1, 1);
    shares(Due.told("ip1900;ip1900;ip1100;ip1100;ip1100;h3;"), "shares", 6, 0, 1, 2, 2, 2);
    shares(Due.told("ip1500;ip1500;ip1500;ip1500;ip1500;ip1500;ip1500;h4;"), "shares", 5, 0, 0, 1, 1, 2, 2, 3);
    shares(Due.told("ip1500;ip1500;ip1500;ip1500;ip1500;ip1500;ip1500;h2;"), "shares", 5, 0, 0, 0, 0, 1, 1, 1);
  }

  // "by numbers each to him who has least so far, of several the first: the same"
  private static void dealt() {
    for (int n = 2; n <= 4; n++) {
      shares(Due.told("h" + n + ";"), "dealt", 0);
      shares(Due.told("ip1000;ip1000;ip1000;h" + n + ";"), "dealt", 0, 0, 0, 0);
      shares(Due.told("ip1700;h" + n + ";"), "dealt", 7, 0);
    }
    shares(Due.told("ip1100;ip1200;ip1300;h2;"), "dealt", 2, 0, 1, 0);
    shares(Due.told("ip1100;ip1100;ip1100;ip1100;ip1100;ip1100;ip1100;h2;"), "dealt", 1, 0, 1, 0, 1, 0, 1, 0);
    shares(Due.told("ip1100;ip1100;ip1100;ip1100;ip1100;ip1100;ip1100;h3;"), "dealt", 1, 0, 1, 2, 0, 1, 2, 0);
    shares(Due.told("ip1100;ip1100;ip1100;ip1100;ip1100;ip1100;ip1100;h4;"), "dealt", 1, 0, 1, 2, 3, 0, 1, 2);
    shares(Due.told("ip1200;ip1100;ip1100;ip1900;h2;"), "dealt", 9, 0, 1, 1, 0);
    shares(Due.told("is1100;iw1200;ip1400;m00;m10;"), "dealt", 1, 0, 1, 0);
  }

  // "how many have more than another one"
  private static void envied() {
    for (int n = 2; n <= 4; n++) {
      Due.due("of none", Due.told("h" + n + ";").envy(), 0);
      Due.due("of no blame", Due.told("ip1000;h" + n + ";").envy(), 0);
      Due.due("of one", Due.told("ip1100;h" + n + ";").envy(), 1);
      Due.due("all alike", Due.told("ip1100;".repeat(n) + "h" + n + ";").envy(), 0);
      Due.due("one has more", Due.told("ip1100;".repeat(n + 1) + "h" + n + ";").envy(), 1);
      Due.due("all but one have more", Due.told("ip1100;".repeat(n - 1) + "h" + n + ";").envy(), n - 1);
    }
    Due.due("by the first of the fairest", Due.told("ip1900;ip1900;ip1100;ip1100;ip1100;h3;").envy(), 2);
  }

  // "HEIRS take in turn, each the PIECE with the least BLAME left"; "to whom the last goes"
  private static void chosen() {
    for (int n = 2; n <= 4; n++) {
      Due.due("the last of none", Due.told("h" + n + ";").choice(-1), -9);
      for (int heir = 0; heir < n; heir++) {
        Due.due("of none", Due.told("h" + n + ";").choice(heir), 0);
      }
      for (int pieces = 1; pieces <= 7; pieces++) {
        StringBuilder house = new StringBuilder("h" + n + ";");
        for (int i = 0; i < pieces; i++) {
          house.append("ip1").append(pieces - i).append("00;");
        }
        BlameIsFurniture x = Due.told(house.toString());
        Due.due("the last of " + pieces + " to " + n, x.choice(-1), (pieces - 1) % n);
        for (int heir = 0; heir < n; heir++) {
          int share = 0;
          for (int blame = heir + 1; blame <= pieces; blame += n) {
            share += blame;
          }
          Due.due("of " + pieces + " to " + heir + " of " + n, x.choice(heir), share);
        }
      }
    }
  }

  // "(those behind it are one number less) BLAME of all is least, of several the least; -9 none; that BLAME"
  private static void sold() {
    BlameIsFurniture last = Due.told("ip1200;ip1300;ip1900;");
    Due.due("the last", last.sell(0), 2);
    Due.due("without the last", last.sell(1), 5);
    BlameIsFurniture first = Due.told("ip1900;ip1300;ip1900;");
    Due.due("of several the least", first.sell(0), 0);
    Due.due("without it", first.sell(1), 12);
    BlameIsFurniture none = Due.told("ip1000;ip1000;");
    Due.due("of no blame", none.sell(0), 0);
    Due.due("without it", none.sell(1), 0);
    // Without 0 the clock, whose AGE is 99, has the number 0 and is the veneer's next, as of the last the first.
    BlameIsFurniture clock = Due.told("ip1900;ic1399;iv1400;");
    Due.due("all that a piece has moves on with it", clock.sell(0), 0);
    Due.due("3 and 9, 2 and 3", clock.sell(1), 17);
    // Without 0 the suites, in their room, are 0 and 1.
    BlameIsFurniture suites = Due.told("ip1900;is1000;is1000;r001;ip1000;m15;m25;");
    Due.due("its room, too", suites.sell(0), 0);
    Due.due("two suites together", suites.sell(1), 4);
    BlameIsFurniture alone = Due.told("iv1400;ip1900;");
    Due.due("a veneer alone", alone.sell(0), 1);
    Due.due("2 and 0", alone.sell(1), 2);
  }

  // "the two (10 the lesser and the other) likewise; -9"
  private static void burnt() {
    Due.due("none", new BlameIsFurniture().burn(), -9);
    Due.due("one", Due.told("ip1000;").burn(), -9);
    Due.due("two", Due.told("ip1000;ip1000;").burn(), 1);
    for (int lesser = 0; lesser < 7; lesser++) {
      for (int other = lesser + 1; other < 7; other++) {
        StringBuilder house = new StringBuilder();
        for (int i = 0; i < 7; i++) {
          house.append(i == lesser || i == other ? "ip1900;" : "ip1800;");
        }
        Due.due("of seven", Due.told(house.toString()).burn(), 10 * lesser + other);
      }
    }
    Due.due("of several the least", Due.told("ip1100;ip1900;ip1900;ip1900;").burn(), 12);
    Due.due("all alike", Due.told("ip1400;".repeat(7)).burn(), 1);
    // The clock behind the two keeps its AGE; without it and one of them there would be 9 more.
    Due.due("all that a piece has moves on with it", Due.told("ip1900;ip1900;ic1089;").burn(), 1);
    Due.due("the clock is worse", Due.told("ip1900;ip1700;ic1089;").burn(), 2);
  }

  // "the one that POLISHED makes BLAME of all greatest, of several the least; -9 none can be"
  private static void heavier() {
    Due.due("none", new BlameIsFurniture().heavier(), -9);
    Due.due("9", Due.told("ip1900;").heavier(), -9);
    Due.due("8", Due.told("ip1800;").heavier(), 0);
    Due.due("all but the last are 9", Due.told("iw1900;".repeat(6) + "it1000;").heavier(), 6);
    Due.due("of several the least", Due.told("ip1900;ip1000;is1800;ic1099;").heavier(), 1);
    // 1 more in a veneer of an even FAULT is nothing by itself: 0 and 2 each make 1 more, 3 can not be.
    Due.due("by just 1", Due.told("ip1000;iv1000;iv1000;ip1900;").heavier(), 0);
    Due.due("by just 1", Due.told("ip1000;iv1000;iv1100;ip1900;").heavier(), 2);
    Due.due("a table alone can be, though it is none", Due.told("it1000;").heavier(), 0);
  }

  // "BLAME in n YEARS (0 .. 200)", "(In thought YEAR may pass 999.)"
  private static void later() {
    BlameIsFurniture x = Due.told("ip1900;ic1050;y05;");
    for (int n = 0; n <= 200; n++) {
      int year = 5 + n;
      Due.due("later(" + n + ")", x.later(n), Math.max(0, 9 - year / 10) + Math.min(99, 50 + year) / 10);
    }
    BlameIsFurniture last = Due.told(AT_999 + "ip1900;ic1300;");
    for (int n = 0; n <= 200; n++) {
      int worn = (999 + n) / 10 - 99;
      Due.due("later(" + n + ") in 999", last.later(n), Math.max(0, 9 - worn) + 3 + Math.min(99, n) / 10);
    }
    Due.due("it is 999 still", last.count(1), 999);
    Due.due("no year can go by", last.years(1), -6);
  }

  // "in how many YEARS (0 .. 200) BLAME of all is v (0 .. 999) or less; -9"
  private static void gone() {
    BlameIsFurniture x = Due.told("ip1900;y05;");
    for (int v = 0; v <= 9; v++) {
      Due.due("gone(" + v + ")", x.gone(v), v == 9 ? 0 : 10 * (9 - v) - 5);
    }
    Due.due("gone(999)", x.gone(999), 0);
    Due.due("behind 999", Due.told(AT_999 + "ip1900;").gone(7), 11);
    Due.due("the last to be gone", Due.told(AT_999 + "ip1900;").gone(0), 81);
    Due.due("none", new BlameIsFurniture().gone(0), 0);
    Due.due("never", Due.told("ic1100;").gone(0), -9);
    Due.due("less first, more behind it", Due.told("ip1100;ic1000;").gone(0), -9);
    Due.due("at once", Due.told("ip1100;ic1000;").gone(1), 0);
    // In each tenth year the one is worn by 1 and the clock has 1 more.
    Due.due("worn and older at once", Due.told("ip1900;ic1000;").gone(8), -9);
    Due.due("worn ahead of it", Due.told("ip1900;ic1000;y05;").gone(9), 0);
    Due.due("worn as it grows older no more", Due.told("ip1900;ic1099;").gone(17), 10);
  }

  // "PIECES (bits) one of which alone, with a FAULT of 0 .. 9 that is not its own, makes it so"
  private static void whose() {
    for (int own = 0; own <= 9; own++) {
      BlameIsFurniture x = Due.told("ip1" + own + "00;");
      for (int v = 0; v <= 11; v++) {
        Due.due("own " + own + ", whose(" + v + ")", x.whose(v), v <= 9 && v != own ? 1 : 0);
      }
      Due.due("whose(999)", x.whose(999), 0);
    }
    BlameIsFurniture seven = Due.told("ip1100;".repeat(7));
    Due.due("as it is now", seven.whose(7), 0);
    Due.due("any of seven, with 0", seven.whose(6), 127);
    Due.due("any of seven, with 9", seven.whose(15), 127);
    Due.due("none, with 10", seven.whose(16), 0);
    Due.due("none, below 0", seven.whose(5), 0);
    Due.due("none", new BlameIsFurniture().whose(0), 0);
    // Half of 4 and of 5 are the same.
    Due.due("another FAULT, the same BLAME", Due.told("iv1400;ip1000;").whose(2), 1);
    Due.due("no other FAULT, the same BLAME", Due.told("ip1000;ip1200;").whose(2), 0);
  }

  // "most alike (the lesser most), of several the least; -9 none"
  private static void asked() {
    Due.due("none", new BlameIsFurniture().ask(0), -9);
    Due.due("none", new BlameIsFurniture().ask(999), -9);
    Due.due("all are more", Due.told("ip1500;ip1600;").ask(0), 0);
    Due.due("all are less", Due.told("ip1500;ip1600;").ask(999), 0);
    // If the others have 0, 5 .. 9 make it 5 or more and 0 .. 4 less; if they have 1, 4 .. 9 and 0 .. 3.
    Due.due("5 and 5", Due.told("ip1000;ip1100;").ask(5), 1);
    Due.due("5 and 5", Due.told("ip1100;ip1000;").ask(5), 0);
    Due.due("6 and 4, 4 and 6", Due.told("ip1100;ip1300;").ask(7), 0);
    Due.due("6 and 4, 5 and 5", Due.told("ip1200;ip1300;").ask(7), 1);
    Due.due("of seven the last", Due.told("ip1000;".repeat(6) + "ip1900;").ask(5), 6);
    Due.due("just as much is enough", Due.told("ip1000;ip1000;ip1900;").ask(9), 2);
    Due.due("one less is not", Due.told("ip1900;ip1100;").ask(10), 0);
  }

  // "the least WIDE (0 .. 9) of the STAIRS to a FLOOR with which a PIECE can be carried to a ROOM (all else as it is); -9"
  private static void wider() {
    String kinds = "psvcwt";
    for (int kind = 0; kind < 6; kind++) {
      for (int bulk = 1; bulk <= 9; bulk++) {
        int wide = new int[] {bulk, bulk, bulk - 1, bulk / 2, 10, bulk}[kind];
        String piece = "i" + kinds.charAt(kind) + bulk + "000;";
        int due = wide > 9 ? -9 : wide;
        Due.due(piece + " up to floor 1", Due.told(piece + "m01;s10;").wider(1, 0, 2), due);
        Due.due(piece + " down from floor 1", Due.told(piece + "m03;s19;").wider(1, 0, 0), due);
        Due.due(piece + " up to floor 2", Due.told(piece + "m03;s20;").wider(2, 0, 4), due);
        Due.due(piece + " up both", Due.told(piece + "m00;s19;s20;").wider(2, 0, 5), due);
        Due.due(piece + " up both", Due.told(piece + "m00;s10;s29;").wider(1, 0, 5), due);
        Due.due(piece + " on its floor", Due.told(piece + "m04;s10;s20;").wider(2, 0, 5), 0);
        Due.due(piece + " from the attic", Due.told(piece + "s10;s20;").wider(1, 0, 5), 0);
        Due.due(piece + " to its own room", Due.told(piece + "m04;").wider(1, 0, 4), -9);
        Due.due(piece + " to no space", Due.told(piece + "m04;r500;").wider(2, 0, 5), -9);
      }
    }
    Due.due("the other stairs are too narrow", Due.told("ip5000;m00;s24;").wider(1, 0, 4), -9);
    Due.due("the other stairs are just wide enough", Due.told("ip5000;m00;s25;").wider(1, 0, 4), 5);
    Due.due("the other stairs matter not", Due.told("ip5000;m00;s20;").wider(1, 0, 2), 5);
    Due.due("not on the way", Due.told("ip5000;m00;s20;").wider(2, 0, 2), 0);
    Due.due("not on the way, too narrow on it", Due.told("ip5000;m00;s14;").wider(2, 0, 2), -9);
    Due.due("just space", Due.told("ip5000;ip4000;m00;m12;").wider(1, 0, 2), 5);
    Due.due("one too much", Due.told("ip5000;ip5000;m00;m12;").wider(1, 0, 2), -9);
  }

  // "the least SIZE (0 .. 20) of a ROOM with which a PIECE can be carried there (all else as it is); -9"
  private static void bigger() {
    for (int bulk = 1; bulk <= 9; bulk++) {
      Due.due("an empty room", Due.told("r300;ip" + bulk + "000;").bigger(0, 3), bulk);
      Due.due("a bigger room than it must be", Due.told("r320;ip" + bulk + "000;").bigger(0, 3), bulk);
      int[] beside = {12, 11};
      for (int there : beside) {
        String house = "r320;ip9000;ip" + (there - 9) + "000;ip" + bulk + "000;m03;m13;";
        Due.due("beside " + there, Due.told(house).bigger(2, 3), there + bulk > 20 ? -9 : there + bulk);
      }
    }
    Due.due("its own room", Due.told("ip1000;m03;").bigger(0, 3), -9);
    Due.due("stairs just wide enough", Due.told("ip5000;m03;s15;").bigger(0, 1), 5);
    Due.due("stairs too narrow", Due.told("ip5000;m03;s14;").bigger(0, 1), -9);
    Due.due("a wardrobe on its floor", Due.told("iw5000;m03;").bigger(0, 2), 5);
    Due.due("a wardrobe on stairs", Due.told("iw5000;m03;s19;s29;").bigger(0, 1), -9);
  }

  // "the PIECE with the least BLAME in a ROOM, of several the least; -9"
  private static void guests() {
    for (int room : new int[] {0, 1, 2, 3, 4, 5, 9}) {
      BlameIsFurniture x = Due.told("r020;r120;r220;r320;r420;r520;ip1100;ip1500;ip1400;ip1400;");
      Due.due("nobody in " + room, x.guest(room), room == 9 ? 0 : -9);
      for (int i = 0; i < 4; i++) {
        x.carry(i, room == 0 ? 1 : 0);
      }
      Due.due("all elsewhere", x.guest(room), -9);
      for (int i = 1; i < 4; i++) {
        x.carry(i, room);
      }
      Due.due("of several the least", x.guest(room), 2);
      x.polish(2);
      Due.due("the last has least", x.guest(room), 3);
    }
    Due.due("of no blame", Due.told("ip1000;m05;").guest(5), 0);
  }

  private static void row(BlameIsFurniture x, int... numbers) {
    for (int number : numbers) {
      x.row(number);
    }
  }

  // "BLAME of all (99 for more) behind 0, 1, .. YEARS: the first that is not so; -9"; "the ROW has none then"
  private static void judged() {
    BlameIsFurniture x = Due.told("ip1500;y08;");
    int[] right = {5, 5, 4, 4, 4, 4, 4, 4, 4, 4, 4, 4};
    for (int wrong = 0; wrong <= 12; wrong++) {
      row(x, right);
      Due.due("12 in the row", x.count(7), 12);
      Due.due("all are so", x.judge(), -9);
      Due.due("none in the row", x.count(7), 0);
      for (int i = 0; i < 12; i++) {
        x.row(i == wrong ? right[i] + 1 : right[i]);
      }
      Due.due("one is not", x.judge(), wrong == 12 ? -9 : wrong);
      Due.due("none in the row", x.count(7), 0);
    }
    row(x, 6, 6);
    Due.due("none is", x.judge(), 0);
    Due.due("an empty row", x.judge(), -9);
    Due.due("the year is as it was", x.count(1), 8);
    // 18 in each of 5 and 9; 18 in each of 5 and 8; 18 in each of 6.
    String[] houses = {"iw1900;".repeat(5) + "ip1900;", "iw1900;".repeat(5) + "ip1800;", "iw1900;".repeat(6)};
    int[] blames = {99, 98, 108};
    for (int i = 0; i < 3; i++) {
      BlameIsFurniture much = Due.told(houses[i]);
      Due.due("blame of all", much.blame(10), blames[i]);
      much.row(99);
      Due.due("99 for " + blames[i], much.judge(), blames[i] >= 99 ? -9 : 0);
      much.row(98);
      Due.due("98 for " + blames[i], much.judge(), blames[i] == 98 ? -9 : 0);
    }
    BlameIsFurniture last = Due.told(AT_999 + "ip1900;");
    row(last, 9, 8, 8, 8, 8, 8, 8, 8, 8, 8, 8, 7);
    Due.due("behind 999", last.judge(), -9);
  }

  // "KINDS (bits) of a PIECE by which the whole ROW is so"
  private static void fitting() {
    BlameIsFurniture x = Due.told("ip1449;is1000;m00;m10;");
    // Beside a suite of FAULT 0: plain 4; suite 4 and 2, which makes the other 2; veneer 2; clock 8; wardrobe 8 and 2 and 2; table 1.
    int[] blames = {4, 8, 2, 8, 12, 1};
    int[] bits = {1, 2 + 8, 4, 2 + 8, 16, 32};
    for (int i = 0; i < blames.length; i++) {
      x.row(blames[i]);
      Due.due("kinds of " + blames[i], x.fits(0), bits[i]);
      Due.due("the row stays", x.count(7), 1);
      x.judge();
    }
    row(x, 8, 9);
    Due.due("it is older behind a year", x.fits(0), 8);
    Due.due("the row stays", x.count(7), 2);
    x.judge();
    row(x, 8, 8);
    Due.due("as a suite", x.fits(0), 2);
    x.judge();
    Due.due("an empty row", x.fits(0), 63);
    Due.due("its own kind is one of them", Due.told("it1900;").fits(0), 63);
    BlameIsFurniture much = Due.told("iw1900;".repeat(7));
    much.row(99);
    Due.due("99 for more", much.fits(6), 63);
  }

  // "n houses (1 .. 20), each PIECE in a ROOM by a DRAW below 6 (SIZE, STAIRS no matter): all BLAME of the ROOM with most, together"
  private static void lots() {
    for (int n = 1; n <= 20; n++) {
      Due.due("of none", new BlameIsFurniture().lots(n, n), 0);
      Due.due("of one", Due.told("iw9900;r000;r100;r200;r300;r400;r500;s10;s20;").lots(n, -n), 18 * n);
      Due.due("of no blame", Due.told("ip1000;ip1000;").lots(n, n), 0);
    }
  }

  // "z becomes z times 1664525 and 1013904223 (an int); (z without its sign's bit by 256, cut) modulo m"
  private static void drawn() {
    BlameIsFurniture x = Due.told("is1100;iw1200;is1300;iw1400;is1500;iw1600;is1700;");
    int[] faults = {1, 2, 3, 4, 5, 6, 7};
    int[] seeds = {0, 1, -1, 255, 256, 99999, Integer.MIN_VALUE, Integer.MAX_VALUE, Integer.MIN_VALUE + 1, -1013904223};
    for (int seed : seeds) {
      int z = seed;
      int sum = 0;
      for (int n = 1; n <= 20; n++) {
        int[] blame = new int[6];
        int[] standing = new int[6];
        for (int i = 0; i < 7; i++) {
          z = z * 1664525 + 1013904223;
          int room = (z & 0x7fffffff) / 256 % 6;
          blame[room] += faults[i] * (i % 2 + 1);
          standing[room]++;
        }
        int most = 0;
        for (int room = 0; room < 6; room++) {
          most = Math.max(most, blame[room] + 2 * standing[room] * (standing[room] - 1));
        }
        sum += most;
        Due.due("lots(" + n + ", " + seed + ")", x.lots(n, seed), sum);
      }
    }
    Due.due("they stand where they stood", x.count(5), 0);
  }

  // "all that there is, but it, the ROW, letters, REFUSALS; ON from it all is as then"
  private static void imaged() {
    String house = "ip1900;ic2350;m00;r015;r519;s17;s28;h3;y25;p0;p1;";
    BlameIsFurniture x = new BlameIsFurniture();
    Due.due("none", x.on(), -3);
    Due.due("of a new one", x.image(), 0);
    Due.tellAll(x, house);
    Due.due("on to a new one", x.on(), 0);
    int[] fresh = {0, 0, 2, 0, 0, 0, 54, 0, 0};
    for (int what = 0; what < fresh.length; what++) {
      Due.due("count(" + what + ")", x.count(what), fresh[what]);
    }
    Due.due("no piece", x.piece(0, 0), -1);
    Due.due("wide(1)", x.wide(1, 6), 6);
    Due.due("wide(2)", x.wide(2, 6), 6);
    Due.tellAll(x, house);
    Due.due("another image", x.image(), 25);
    for (int time = 0; time < 2; time++) {
      x.years(60);
      x.carry(0, 9);
      x.carry(1, 3);
      x.size(0, 3);
      x.wide(1, 0);
      x.wide(2, 0);
      x.heirs(4);
      Due.tell(x, "iw1000;");
      Due.due("on from it, as often as one likes", x.on(), 25);
      int[] was = {2, 25, 3, 3, 12, 1, 70, 0, 0};
      for (int what = 0; what < was.length; what++) {
        Due.due("count(" + what + ")", x.count(what), was[what]);
      }
      int[][] pieces = {{0, 1, 8, 25, 0}, {3, 2, 4, 75, 9}};
      for (int i = 0; i < 2; i++) {
        for (int what = 0; what < 5; what++) {
          Due.due("piece(" + i + ", " + what + ")", x.piece(i, what), pieces[i][what]);
        }
      }
      Due.due("size(0)", x.size(0, 15), 15);
      Due.due("wide(1)", x.wide(1, 7), 7);
      Due.due("wide(2)", x.wide(2, 8), 8);
    }
    Due.refusals(x, 1, 0, 1, 0, 0, 0);
  }

  // "0 PIECES, 1 YEAR, .. -9 for another what"
  private static void counted() {
    BlameIsFurniture x = Due.told("ip9900;".repeat(7) + "r020;r120;r220;r320;r420;r520;h4;" + AT_999);
    for (int i = 0; i < 7; i++) {
      x.carry(i, i % 6);
    }
    for (int i = 0; i < 12; i++) {
      x.row(99);
    }
    for (int i = 0; i < 96; i++) {
      x.letter(255);
    }
    int[] most = {7, 999, 4, 63, 0, 7, 120, 12, 96, -9, -9};
    for (int what = 0; what < most.length; what++) {
      Due.due("count(" + what + ")", x.count(what), most[what]);
    }
    Due.due("all faults", Due.told("ip9900;".repeat(7)).count(4), 63);
    Due.refusals(x, 0, 0, 0, 0, 0, 0);
  }
}
