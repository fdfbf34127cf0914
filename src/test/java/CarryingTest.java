/** Promises 5 to 11: carry, stands, polish, size, wide, heirs, years. */
final class CarryingTest {
  public static void main(String[] args) {
    carrying();
    stairs();
    standing();
    polishing();
    sizes();
    widths();
    heirs();
    years();
    wear();
    Due.end("CarryingTest");
  }

  private static void carrying() {
    BlameIsFurniture x = Due.told("ip5000;ip4000;ip1000;");
    Due.due("carry(0, 0)", x.carry(0, 0), 9);
    Due.due("carry(1, 0)", x.carry(1, 0), 9);
    Due.due("no space", x.carry(2, 0), -3);
    Due.due("its own room", x.carry(0, 0), -3);
    Due.due("the attic for one in it", x.carry(2, 9), -3);
    Due.due("to the attic", x.carry(1, 9), 0);
    Due.due("now there is space", x.carry(2, 0), 9);
    Due.due("to another room", x.carry(2, 1), 0);
    Due.due("it stands there", x.piece(2, 4), 1);
    Due.due("to the attic again", x.carry(2, 9), 1);
    Due.due("carry(3, 0)", x.carry(3, 0), -1);
    Due.due("carry(-1, 0)", x.carry(-1, 0), -1);
    for (int room : new int[] {-1, 6, 7, 8, 10}) {
      Due.due("carry(0, " + room + ")", x.carry(0, room), -1);
    }
    Due.refusals(x, 7, 0, 3, 0, 0, 0);
    Due.due("it stayed", x.piece(0, 4), 0);
  }

  private static void stairs() {
    BlameIsFurniture x = Due.told("ip5000;s14;");
    Due.due("let down to any", x.carry(0, 4), 9);
    Due.due("on its floor", x.carry(0, 5), 4);
    Due.due("down the stairs to floor 2", x.carry(0, 3), 5);
    Due.due("too wide down", x.carry(0, 1), -3);
    Due.due("up again", x.carry(0, 4), 3);
    Due.due("two floors, the lower stairs are narrow", x.carry(0, 0), -3);
    x.wide(1, 5);
    x.wide(2, 4);
    Due.due("two floors, the upper stairs are narrow", x.carry(0, 0), -3);
    Due.due("the upper stairs are narrow", x.carry(0, 2), -3);
    x.wide(2, 5);
    Due.due("two floors", x.carry(0, 0), 4);
    x.wide(2, 4);
    Due.due("the upper stairs matter not", x.carry(0, 2), 0);
    x.wide(1, 0);
    Due.due("to the attic always", x.carry(0, 9), 2);
    BlameIsFurniture wardrobe = Due.told("iw1000;s19;s29;m02;");
    Due.due("a wardrobe goes no stairs", wardrobe.carry(0, 0), -3);
    Due.due("nor up", wardrobe.carry(0, 4), -3);
    Due.due("on its floor it goes", wardrobe.carry(0, 3), 2);
    BlameIsFurniture veneer = Due.told("iv6000;ic9000;s15;r120;m00;m11;");
    Due.due("a veneer is less wide", veneer.carry(0, 2), 0);
    Due.due("a clock is half as wide", veneer.carry(1, 3), 1);
    BlameIsFurniture table = Due.told("it6000;s15;m00;");
    Due.due("a table is as wide as a plain one", table.carry(0, 2), -3);
  }

  private static void standing() {
    BlameIsFurniture x = Due.told("ip5000;ip5000;s14;m01;");
    Due.due("another on its floor", x.stands(0, 0), 1);
    Due.due("its own", x.stands(0, 1), 0);
    Due.due("up the stairs", x.stands(0, 2), 0);
    Due.due("its attic", x.stands(0, 9), 1);
    Due.due("no space", x.stands(1, 1), 0);
    Due.due("let down", x.stands(1, 5), 1);
    Due.due("in the attic", x.stands(1, 9), 0);
    Due.due("nothing was carried", x.piece(0, 4), 1);
    Due.due("stands(2, 0)", x.stands(2, 0), -1);
    Due.due("stands(-1, 0)", x.stands(-1, 0), -1);
    for (int room : new int[] {-1, 6, 8, 10}) {
      Due.due("stands(0, " + room + ")", x.stands(0, room), -1);
    }
    Due.refusals(x, 6, 0, 0, 0, 0, 0);
  }

  private static void polishing() {
    BlameIsFurniture x = Due.told("ip1700;");
    Due.due("polish", x.polish(0), 8);
    Due.due("polish", x.polish(0), 9);
    Due.due("polish", x.polish(0), -3);
    Due.due("fault", x.piece(0, 2), 9);
    Due.due("polish(1)", x.polish(1), -1);
    Due.due("polish(-1)", x.polish(-1), -1);
    Due.refusals(x, 2, 0, 1, 0, 0, 0);
  }

  private static void sizes() {
    BlameIsFurniture x = Due.told("ip4000;ip3000;m02;m12;");
    Due.due("size(2, 7)", x.size(2, 7), 9);
    Due.due("size(2, 6)", x.size(2, 6), -3);
    Due.due("size(2, 20)", x.size(2, 20), 7);
    Due.due("size(2, 21)", x.size(2, 21), -6);
    Due.due("size(2, -1)", x.size(2, -1), -4);
    Due.due("size(5, 0)", x.size(5, 0), 9);
    Due.due("size(5, 0)", x.size(5, 0), 0);
    for (int room : new int[] {-1, 6, 9, 10}) {
      Due.due("size(" + room + ", -1)", x.size(room, -1), -1);
    }
    Due.due("sizes", x.count(6), 56);
    Due.refusals(x, 4, 0, 1, 1, 0, 1);
  }

  private static void widths() {
    BlameIsFurniture x = new BlameIsFurniture();
    Due.due("wide(1, 0)", x.wide(1, 0), 6);
    Due.due("wide(2, 9)", x.wide(2, 9), 6);
    Due.due("wide(1, 3)", x.wide(1, 3), 0);
    Due.due("wide(2, 6)", x.wide(2, 6), 9);
    Due.due("wide(1, -1)", x.wide(1, -1), -4);
    Due.due("wide(2, 10)", x.wide(2, 10), -6);
    Due.due("wide(0, -1)", x.wide(0, -1), -1);
    Due.due("wide(3, 10)", x.wide(3, 10), -1);
    Due.due("wide(-1, 5)", x.wide(-1, 5), -1);
    Due.due("wide(1, 3)", x.wide(1, 3), 3);
    Due.refusals(x, 3, 0, 0, 1, 0, 1);
  }

  private static void heirs() {
    BlameIsFurniture x = new BlameIsFurniture();
    Due.due("heirs(4)", x.heirs(4), 2);
    Due.due("heirs(5)", x.heirs(5), -6);
    Due.due("heirs(1)", x.heirs(1), -4);
    Due.due("heirs(3)", x.heirs(3), 4);
    Due.due("heirs(2)", x.heirs(2), 3);
    Due.due("heirs", x.count(2), 2);
    Due.refusals(x, 0, 0, 0, 1, 0, 1);
  }

  private static void years() {
    BlameIsFurniture x = Due.told("ip1097;");
    Due.due("years(1)", x.years(1), 1);
    Due.due("age", x.piece(0, 3), 98);
    Due.due("years(60)", x.years(60), 61);
    Due.due("age stays 99", x.piece(0, 3), 99);
    Due.due("years(0)", x.years(0), -4);
    Due.due("years(-5)", x.years(-5), -4);
    Due.due("years(61)", x.years(61), -6);
    for (int year = 121; year <= 961; year += 60) {
      Due.due("years(60)", x.years(60), year);
    }
    Due.due("above 999", x.years(39), -6);
    Due.due("it stays", x.count(1), 961);
    Due.due("to 999", x.years(38), 999);
    Due.due("no more", x.years(1), -6);
    Due.refusals(x, 0, 0, 0, 2, 0, 3);
  }

  private static void wear() {
    BlameIsFurniture x = Due.told("ip1900;is1800;iv1700;ic1600;iw1500;it1000;");
    x.years(9);
    int[] first = {9, 8, 7, 6, 5, 0};
    int[] tenth = {8, 7, 6, 6, 4, 0};
    int[] seventieth = {2, 1, 0, 6, 0, 0};
    for (int i = 0; i < 6; i++) {
      Due.due("behind 9 years", x.piece(i, 2), first[i]);
    }
    x.years(1);
    for (int i = 0; i < 6; i++) {
      Due.due("behind 10 years", x.piece(i, 2), tenth[i]);
      Due.due("age", x.piece(i, 3), 10);
    }
    x.years(9);
    Due.due("behind 19 years", x.piece(0, 2), 8);
    x.years(51);
    for (int i = 0; i < 6; i++) {
      Due.due("behind 70 years", x.piece(i, 2), seventieth[i]);
    }
    BlameIsFurniture late = Due.told("y05;it1310;");
    late.years(5);
    Due.due("by the year, not by the age", late.piece(0, 2), 2);
    late.years(10);
    Due.due("again", late.piece(0, 2), 1);
  }
}
