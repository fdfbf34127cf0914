/** Promises 1, 4 to 14 and the first part of the Terms: rooms, stairs, kinds, what is carried, worn, polished, to the edge. */
final class HouseEdgesTest {
  private static final String KINDS = "psvcwt";

  public static void main(String[] args) {
    firstNumbers();
    floors();
    wideOnStairs();
    attic();
    space();
    sizeOfARoom();
    widthOfStairs();
    plainBlame();
    veneerBlame();
    veneerNext();
    clockBlame();
    company();
    atticCompany();
    wear();
    wearNever();
    ages();
    yearOrder();
    yearsAtTheEnd();
    polish();
    worst();
    crowded();
    Due.end("HouseEdgesTest");
  }

  // "9 at first", "6 at first", "2 at first", "0 at first", "(9: none, in the attic; so at first)"
  private static void firstNumbers() {
    for (int room = 0; room < 6; room++) {
      Due.due("size at first", new BlameIsFurniture().size(room, 0), 9);
      Due.due("9 goes in at first", Due.told("ip9000;").stands(0, room), 1);
    }
    BlameIsFurniture x = Due.told("ip6000;ip7000;m00;m11;");
    Due.due("6 goes up at first", x.stands(0, 2), 1);
    Due.due("7 does not", x.stands(1, 2), 0);
    Due.due("6 goes up to floor 2 at first", x.stands(0, 4), 1);
    Due.due("wide(1)", new BlameIsFurniture().wide(1, 0), 6);
    Due.due("wide(2)", new BlameIsFurniture().wide(2, 0), 6);
    Due.due("heirs", new BlameIsFurniture().heirs(4), 2);
    Due.due("year", new BlameIsFurniture().years(1), 1);
    Due.due("blame of all", new BlameIsFurniture().blame(10), 0);
  }

  // "on FLOOR ROOM by 2, cut": a wardrobe never leaves its floor.
  private static void floors() {
    for (int from = 0; from < 6; from++) {
      BlameIsFurniture x = Due.told("iw1000;s19;s29;m0" + from + ";");
      for (int to = 0; to < 6; to++) {
        Due.due("a wardrobe from " + from + " to " + to, x.stands(0, to), to == (from ^ 1) ? 1 : 0);
      }
    }
  }

  // "how WIDE it is on STAIRS", "it is no more than WIDE on STAIRS that it goes up or down (from its FLOOR to the other)"
  private static void wideOnStairs() {
    for (int kind = 0; kind < 6; kind++) {
      for (int bulk = 1; bulk <= 9; bulk++) {
        int wide = new int[] {bulk, bulk, bulk - 1, bulk / 2, 10, bulk}[kind];
        BlameIsFurniture x = Due.told("i" + KINDS.charAt(kind) + bulk + "000;");
        Due.due("wide of " + KINDS.charAt(kind) + bulk, x.piece(0, 6), wide);
        for (int first = 0; first <= 9; first++) {
          for (int second = 0; second <= 9; second++) {
            BlameIsFurniture y = Due.told("i" + KINDS.charAt(kind) + bulk + "000;s1" + first + ";s2" + second + ";");
            goesEverywhere(y, wide <= first, wide <= second);
          }
        }
      }
    }
  }

  private static void goesEverywhere(BlameIsFurniture x, boolean passesFirst, boolean passesSecond) {
    for (int from = 0; from < 6; from++) {
      x.carry(0, 9);
      Due.due("from the attic it is let down to any", x.carry(0, from), 9);
      for (int to = 0; to < 6; to++) {
        int low = Math.min(from, to) / 2;
        int high = Math.max(from, to) / 2;
        boolean can = from != to && (low > 0 || high < 1 || passesFirst) && (low > 1 || high < 2 || passesSecond);
        if (x.stands(0, to) != (can ? 1 : 0)) {
          Due.due("from " + from + " to " + to, x.stands(0, to), can ? 1 : 0);
        }
      }
    }
  }

  // "to the attic always (not if it is there)", "(another one than its own, or from the attic)"
  private static void attic() {
    for (int room = 0; room < 6; room++) {
      BlameIsFurniture x = Due.told("iw9999;s10;s20;");
      Due.due("in the attic to the attic", x.stands(0, 9), 0);
      Due.due("in the attic to the attic", x.carry(0, 9), -3);
      Due.due("let down", x.carry(0, room), 9);
      Due.due("its own room", x.stands(0, room), 0);
      Due.due("its own room", x.carry(0, room), -3);
      Due.due("to the attic always", x.stands(0, 9), 1);
      Due.due("to the attic always", x.carry(0, 9), room);
      Due.due("in the attic again", x.carry(0, 9), -3);
    }
    BlameIsFurniture seven = Due.told("ip9000;".repeat(7));
    Due.due("all seven stand in the attic", seven.count(5), 0);
    seven.carry(6, 5);
    Due.due("six stand in the attic", seven.count(5), 1);
    Due.due("the attic has no size", seven.carry(6, 9), 5);
    BlameIsFurniture twice = Due.told("r020;ip5000;m00;");
    Due.due("its own room, though there is space for two of it", twice.carry(0, 0), -3);
  }

  // "if BULK of all there and it are no more than SIZE"
  private static void space() {
    for (int size = 9; size <= 20; size++) {
      for (int bulk = 1; bulk <= 9; bulk++) {
        BlameIsFurniture x = Due.told("r4" + size / 10 + size % 10 + ";ip4000;ic5000;ip" + bulk + "000;m04;m14;");
        boolean can = 9 + bulk <= size;
        Due.due("9 and " + bulk + " in " + size, x.stands(2, 4), can ? 1 : 0);
        Due.due("9 and " + bulk + " in " + size, x.carry(2, 4), can ? 9 : -3);
      }
    }
    BlameIsFurniture none = Due.told("r200;ip1000;");
    Due.due("nothing goes into 0", none.carry(0, 2), -3);
    none.size(2, 1);
    Due.due("1 goes into 1", none.carry(0, 2), 9);
    BlameIsFurniture leaves = Due.told("ip9000;ip9000;m00;");
    Due.due("no space", leaves.carry(1, 0), -3);
    leaves.carry(0, 1);
    Due.due("what left makes space", leaves.carry(1, 0), 9);
  }

  // size: "becomes v: what it was"; "-3 more stands there"
  private static void sizeOfARoom() {
    for (int room = 0; room < 6; room++) {
      BlameIsFurniture x = Due.told("ip4000;ip3000;ip9000;m0" + room + ";m1" + room + ";");
      Due.due("to what stands there", x.size(room, 7), 9);
      Due.due("to less", x.size(room, 6), -3);
      Due.due("it is as it was", x.size(room, 20), 7);
      Due.due("to the greatest", x.size(room, 20), 20);
      x.carry(0, 9);
      Due.due("to less behind it", x.size(room, 3), 20);
      x.carry(1, 9);
      Due.due("to none behind it", x.size(room, 0), 3);
      Due.due("from none", x.size(room, 9), 0);
      Due.due("all sizes", x.count(6), 54);
    }
  }

  // wide: "becomes v: what it was"
  private static void widthOfStairs() {
    BlameIsFurniture x = new BlameIsFurniture();
    int was = 6;
    for (int v = 0; v <= 9; v++) {
      Due.due("wide(1, " + v + ")", x.wide(1, v), was);
      Due.due("wide(2, " + (9 - v) + ")", x.wide(2, 9 - v), v == 0 ? 6 : 10 - v);
      was = v;
    }
  }

  // "PLAIN: FAULT"; "WARDROBE under SUITE: FAULT more than a SUITE's"
  private static void plainBlame() {
    for (int fault = 0; fault <= 9; fault++) {
      Due.due("plain", Due.told("ip9" + fault + "99;").piece(0, 5), fault);
      Due.due("suite", Due.told("is9" + fault + "99;").piece(0, 5), fault);
      Due.due("wardrobe", Due.told("iw9" + fault + "99;").piece(0, 5), 2 * fault);
    }
  }

  // "half of a PLAIN's, cut, and the FAULT of the PIECE with the next number"; "half of a VENEER's, cut"
  private static void veneerBlame() {
    for (int fault = 0; fault <= 9; fault++) {
      Due.due("veneer alone", Due.told("iv1" + fault + "99;").piece(0, 5), fault / 2);
      Due.due("table alone", Due.told("it1" + fault + "99;").piece(0, 5), fault / 2 / 2);
      for (int next = 0; next <= 9; next++) {
        for (int kind = 0; kind < 6; kind++) {
          String other = "i" + KINDS.charAt(kind) + "1" + next + "99;";
          Due.due("veneer and " + other, Due.told("iv1" + fault + "00;" + other).piece(0, 5), fault / 2 + next);
          Due.due("table and " + other, Due.told("it1" + fault + "00;" + other).piece(0, 5), (fault / 2 + next) / 2);
        }
      }
    }
  }

  // "(of the last the first; alone: 0)"
  private static void veneerNext() {
    for (int n = 2; n <= 7; n++) {
      StringBuilder house = new StringBuilder();
      for (int i = 0; i < n; i++) {
        house.append("iv1").append(i + 1).append("00;");
      }
      BlameIsFurniture x = Due.told(house.toString());
      for (int i = 0; i < n; i++) {
        Due.due("the next of " + i + " of " + n, x.piece(i, 5), (i + 1) / 2 + (i == n - 1 ? 1 : i + 2));
      }
    }
  }

  // "CLOCK under PLAIN: a PLAIN's and AGE by 10, cut"
  private static void clockBlame() {
    for (int age = 0; age <= 99; age++) {
      for (int fault = 0; fault <= 9; fault++) {
        Due.due("clock", Due.told("ic1" + fault + age / 10 + age % 10 + ";").piece(0, 5), fault + age / 10);
      }
    }
  }

  // "2 for each other PIECE of KIND s or w in its ROOM"
  private static void company() {
    for (int kind = 0; kind < 6; kind++) {
      boolean counts = KINDS.charAt(kind) == 's' || KINDS.charAt(kind) == 'w';
      for (int n = 0; n <= 6; n++) {
        String others = ("i" + KINDS.charAt(kind) + "1000;").repeat(n);
        for (String one : new String[] {"is1300;", "iw1300;"}) {
          BlameIsFurniture x = Due.told(one + others);
          for (int i = 0; i <= n; i++) {
            x.carry(i, 3);
          }
          int alone = one.equals("is1300;") ? 3 : 6;
          Due.due(one + " and " + n + " of " + KINDS.charAt(kind), x.piece(0, 5), alone + (counts ? 2 * n : 0));
          x.carry(0, 2);
          Due.due("in another room", x.piece(0, 5), alone);
        }
      }
    }
  }

  // "(none in the attic)"
  private static void atticCompany() {
    BlameIsFurniture x = Due.told("is1100;is1100;iw1100;iw1100;");
    Due.due("blame of the attic", x.blame(9), 6);
    x.carry(0, 5);
    Due.due("one of them in a room", x.blame(5), 1);
    x.carry(2, 5);
    Due.due("two of them in a room", x.blame(5), 1 + 2 + 2 + 2);
    Due.due("and two in the attic", x.blame(9), 3);
    x.carry(0, 9);
    Due.due("and three in the attic", x.blame(9), 4);
  }

  // "FAULT 1 less (0 at least) in each YEAR that 10 divides (the YEAR that begins behind it)"; "nothing is worn"
  private static void wear() {
    for (int kind = 0; kind < 6; kind++) {
      for (int fault = 0; fault <= 9; fault++) {
        String piece = "i" + KINDS.charAt(kind) + "1" + fault + "00;";
        boolean isWorn = KINDS.charAt(kind) != 'c';
        for (int year = 1; year <= 60; year++) {
          BlameIsFurniture x = Due.told(piece);
          x.years(year);
          Due.due(piece + " in " + year, x.piece(0, 2), isWorn ? Math.max(0, fault - year / 10) : fault);
        }
      }
    }
    BlameIsFurniture x = Due.told("ip1900;");
    for (int year = 1; year <= 120; year++) {
      x.years(1);
      Due.due("year by year " + year, x.piece(0, 2), Math.max(0, 9 - year / 10));
    }
  }

  private static void wearNever() {
    BlameIsFurniture x = Due.told("ip1900;y09;");
    Due.due("in the ninth", x.piece(0, 2), 9);
    Due.tell(x, "y01;ip1900;");
    Due.due("in the tenth", x.piece(0, 2), 8);
    Due.due("that came behind it", x.piece(1, 2), 9);
    x.years(9);
    Due.due("in the 19th", x.piece(1, 2), 9);
    x.years(1);
    Due.due("in the 20th", x.piece(1, 2), 8);
    Due.due("in the 20th", x.piece(0, 2), 7);
  }

  // "AGE of each is 1 more (99 at most)"
  private static void ages() {
    BlameIsFurniture x = Due.told("ip1098;ic1099;it1000;y01;");
    int[] first = {99, 99, 1};
    int[] second = {99, 99, 2};
    for (int i = 0; i < 3; i++) {
      Due.due("behind a year", x.piece(i, 3), first[i]);
    }
    x.years(1);
    for (int i = 0; i < 3; i++) {
      Due.due("behind two years", x.piece(i, 3), second[i]);
    }
    x.years(60);
    x.years(60);
    Due.due("behind 122 years", x.piece(2, 3), 99);
    Due.due("the clock's blame", x.piece(1, 5), 9);
  }

  // "YEAR 1 more, then it is worn"
  private static void yearOrder() {
    BlameIsFurniture x = Due.told("ip1500;");
    Due.due("years(9)", x.years(9), 9);
    Due.due("not yet", x.piece(0, 2), 5);
    Due.due("years(1)", x.years(1), 10);
    Due.due("now", x.piece(0, 2), 4);
    Due.due("years(1)", x.years(1), 11);
    Due.due("not again", x.piece(0, 2), 4);
  }

  // YEAR (0 .. 999); years: n (1 .. 60)
  private static void yearsAtTheEnd() {
    for (int n = 1; n <= 60; n++) {
      BlameIsFurniture x = Due.told("ip1900;" + "y60;".repeat(16));
      Due.due("960 and " + n, x.years(n), n <= 39 ? 960 + n : -6);
      Due.due("year", x.count(1), n <= 39 ? 960 + n : 960);
    }
    BlameIsFurniture last = Due.told("ip1900;" + "y60;".repeat(16) + "y39;");
    Due.due("999", last.count(1), 999);
    Due.due("one more", last.years(1), -6);
    Due.due("0 more", last.years(0), -4);
    Due.due("999", last.count(1), 999);
  }

  // "POLISHED: FAULT 1 more (9 at most: then it can not be)"
  private static void polish() {
    for (int kind = 0; kind < 6; kind++) {
      BlameIsFurniture x = Due.told("i" + KINDS.charAt(kind) + "1000;");
      for (int fault = 1; fault <= 9; fault++) {
        Due.due("polish", x.polish(0), fault);
        Due.due("fault", x.piece(0, 2), fault);
      }
      Due.due("polish at 9", x.polish(0), -3);
      Due.due("fault", x.piece(0, 2), 9);
    }
  }

  // "the ROOM with most, of several the least"
  private static void worst() {
    for (int room = 0; room < 6; room++) {
      for (int other = 0; other < 6; other++) {
        BlameIsFurniture x = Due.told("ip1400;ip1400;ip9900;");
        x.carry(0, room);
        x.carry(1, other);
        Due.due("4 in " + room + " and 4 in " + other, x.worst(), Math.min(room, other));
        x.polish(0);
        Due.due("5 in " + room + " and 4 in " + other, x.worst(), room);
      }
    }
    Due.due("nothing in any room", Due.told("ip1900;").worst(), 0);
    Due.due("no blame in any", Due.told("ip1000;m05;").worst(), 0);
    Due.due("no pieces", new BlameIsFurniture().worst(), 0);
  }

  // "ROOMS (bits) into which nothing of BULK 1 would go"
  private static void crowded() {
    for (int room = 0; room < 6; room++) {
      BlameIsFurniture x = Due.told("ip8000;ip1000;m0" + room + ";");
      Due.due("1 would go", x.crowded(), 0);
      x.carry(1, room);
      Due.due("1 would not go", x.crowded(), 1 << room);
      x.size(room, 10);
      Due.due("1 would go again", x.crowded(), 0);
      x.carry(0, 9);
      x.carry(1, 9);
      x.size(room, 0);
      Due.due("of no size", x.crowded(), 1 << room);
      x.size(room, 1);
      Due.due("of size 1", x.crowded(), 0);
    }
    Due.due("all", Due.told("r000;r100;r200;r300;r400;r500;").crowded(), 63);
  }
}
