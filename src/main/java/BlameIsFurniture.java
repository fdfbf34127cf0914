import java.util.Arrays;

/** Blame is furniture: an old house told in letters. ../shared/DOC.md says what each call promises. */
public final class BlameIsFurniture {
  private static final int NOBODY = -1;
  private static final int OTHER = -2;
  private static final int STATE = -3;
  private static final int BELOW = -4;
  private static final int ABOVE = -6;
  private static final int NONE = -9;
  private static final int FINE = 0;

  private static final int ROOMS = 6;
  private static final int ATTIC = 9;
  private static final int WHOLE_HOUSE = 10;
  private static final int ALL_ROOMS = 63;
  private static final int MOST_SIZE = 20;
  private static final int FIRST_SIZE = 9;
  private static final int ROOMS_ON_A_FLOOR = 2;
  private static final int FLOORS = 3;
  private static final int MOST_WIDE = 9;
  private static final int FIRST_WIDE = 6;
  private static final int LEAST_HEIRS = 2;
  private static final int MOST_HEIRS = 4;
  private static final int MOST_YEAR = 999;
  private static final int MOST_YEARS_AT_ONCE = 60;
  private static final int YEARS_TO_WEAR = 10;

  private static final int MOST_PIECES = 7;
  private static final int MOST_PIECES_PLACED = 5;
  private static final int MOST_FAULT = 9;
  private static final int MOST_AGE = 99;
  // Kind 0, the plain one, is what every kind is where nothing else is told.
  private static final int SUITE = 1;
  private static final int VENEER = 2;
  private static final int CLOCK = 3;
  private static final int WARDROBE = 4;
  private static final int TABLE = 5;
  private static final int KINDS = 6;
  private static final String KIND_LETTERS = "psvcwt";
  private static final int WARDROBE_WIDE = 10;
  private static final int BLAME_OF_COMPANY = 2;

  private static final int MOST_LETTERS = 96;
  private static final int MOST_LETTER = 255;
  private static final char ANY_DIGIT = '0';
  private static final char ANY_KIND = 'k';
  private static final int BAD_LETTER = -1000;
  private static final int BAD_STATEMENT = -2000;

  private static final int MOST_IN_ROW = 12;
  private static final int MOST_OF_ROW = 99;
  private static final int MOST_YEARS_AHEAD = 200;
  private static final int MOST_TOLD_BLAME = 999;
  private static final int MOST_LOTS = 20;
  private static final int WORST = 0;
  private static final int FEW = 1;
  // Above whatever a placing costs and a sharing spreads.
  private static final int UNFOUND = 1000000;

  private static final int ALL_BUT_THE_SIGN = 0x7fffffff;

  private final House now = new House();
  // In it calls try what might be, so that none of them makes a house of its own.
  private final House thought = new House();
  private final House kept = new House();
  private boolean isKept = false;
  private final Text text = new Text();
  private final Row told = new Row();
  private final Placing placings = new Placing(thought);
  private final Sharing sharing = new Sharing();
  private final int[] refusals = new int[-ABOVE + 1];

  public BlameIsFurniture() {
  }

  public int letter(int c) {
    return answer(text.add(c));
  }

  public int house() {
    int statements = text.tellInto(thoughtOfNow());
    text.clear();
    if (statements >= 0) {
      now.copyFrom(thought);
    }
    return statements;
  }

  public int piece(int piece, int what) {
    return answer(now.told(piece, what));
  }

  public int carry(int piece, int room) {
    return answer(now.carryTo(piece, room));
  }

  public int stands(int piece, int room) {
    if (!now.hasPiece(piece) || !isPlace(room)) {
      return answer(NOBODY);
    }
    return now.canBeCarried(piece, room) ? 1 : 0;
  }

  public int polish(int piece) {
    return answer(now.polishPiece(piece));
  }

  public int size(int room, int v) {
    return answer(now.resize(room, v));
  }

  public int wide(int floor, int v) {
    return answer(now.widen(floor, v));
  }

  public int heirs(int n) {
    return answer(now.nameHeirs(n));
  }

  public int years(int n) {
    return answer(now.letYearsGoBy(n));
  }

  public int blame(int room) {
    if (room == WHOLE_HOUSE) {
      return now.blameOfAll();
    }
    return isPlace(room) ? now.blameIn(room) : answer(NOBODY);
  }

  public int worst() {
    return now.worstRoom();
  }

  public int crowded() {
    int bits = 0;
    for (int room = 0; room < ROOMS; room++) {
      if (!now.hasSpace(room, 1)) {
        bits |= 1 << room;
      }
    }
    return bits;
  }

  public int placing(int rooms, int what, int i) {
    if (rooms < 1 || i < -1) {
      return answer(BELOW);
    }
    if (rooms > ALL_ROOMS) {
      return answer(ABOVE);
    }
    if (what != WORST && what != FEW) {
      return answer(OTHER);
    }
    if (now.pieces > MOST_PIECES_PLACED) {
      return answer(STATE);
    }
    if (i != -1 && !now.hasPiece(i)) {
      return answer(NOBODY);
    }
    thoughtOfNow();
    int least = placings.search(rooms, what == FEW);
    return i == -1 || least == NONE ? least : placings.roomOf(i);
  }

  public int innocent() {
    if (now.pieces > MOST_PIECES_PLACED) {
      return answer(STATE);
    }
    thoughtOfNow();
    int fewest = placings.search(ALL_ROOMS, true);
    return fewest == NONE ? NONE : ROOMS - fewest;
  }

  public int shares(int i) {
    if (!isAllOrOneOf(i, now.pieces)) {
      return answer(refusalOf(i));
    }
    sharing.shareFairly(now);
    return sharing.spreadOrHeirOf(i);
  }

  public int dealt(int i) {
    if (!isAllOrOneOf(i, now.pieces)) {
      return answer(refusalOf(i));
    }
    sharing.dealOut(now);
    return sharing.spreadOrHeirOf(i);
  }

  public int envy() {
    sharing.shareFairly(now);
    return sharing.envied();
  }

  public int choice(int heir) {
    if (!isAllOrOneOf(heir, now.heirs)) {
      return answer(refusalOf(heir));
    }
    sharing.chooseInTurn(now);
    return heir == -1 ? sharing.lastHeir : sharing.shareOf(heir);
  }

  public int sell(int what) {
    if (what != 0 && what != 1) {
      return answer(OTHER);
    }
    int sold = NONE;
    int least = NONE;
    for (int i = 0; i < now.pieces; i++) {
      int left = blameWithout(i);
      if (sold == NONE || left < least) {
        sold = i;
        least = left;
      }
    }
    return what == 0 ? sold : least;
  }

  public int burn() {
    int burnt = NONE;
    int least = NONE;
    for (int lesser = 0; lesser < now.pieces; lesser++) {
      for (int other = lesser + 1; other < now.pieces; other++) {
        int left = blameWithoutBoth(lesser, other);
        if (burnt == NONE || left < least) {
          burnt = 10 * lesser + other;
          least = left;
        }
      }
    }
    return burnt;
  }

  public int heavier() {
    int heaviest = NONE;
    int most = NONE;
    for (int i = 0; i < now.pieces; i++) {
      if (now.fault[i] < MOST_FAULT) {
        int blame = blameWithFault(i, now.fault[i] + 1);
        if (blame > most) {
          heaviest = i;
          most = blame;
        }
      }
    }
    return heaviest;
  }

  public int later(int n) {
    int refusal = refusalOutside(n, 0, MOST_YEARS_AHEAD);
    if (refusal != FINE) {
      return answer(refusal);
    }
    House ahead = thoughtOfNow();
    for (int year = 0; year < n; year++) {
      ahead.passYear();
    }
    return ahead.blameOfAll();
  }

  public int gone(int v) {
    int refusal = refusalOutside(v, 0, MOST_TOLD_BLAME);
    if (refusal != FINE) {
      return answer(refusal);
    }
    House ahead = thoughtOfNow();
    for (int year = 0; year <= MOST_YEARS_AHEAD; year++) {
      if (ahead.blameOfAll() <= v) {
        return year;
      }
      ahead.passYear();
    }
    return NONE;
  }

  public int whose(int v) {
    int refusal = refusalOutside(v, 0, MOST_TOLD_BLAME);
    if (refusal != FINE) {
      return answer(refusal);
    }
    int bits = 0;
    for (int i = 0; i < now.pieces; i++) {
      if (anotherFaultMakes(i, v)) {
        bits |= 1 << i;
      }
    }
    return bits;
  }

  public int ask(int v) {
    int refusal = refusalOutside(v, 0, MOST_TOLD_BLAME);
    if (refusal != FINE) {
      return answer(refusal);
    }
    int asked = NONE;
    int most = NONE;
    for (int i = 0; i < now.pieces; i++) {
      int lesser = lesserOfBothFaults(i, v);
      if (lesser > most) {
        asked = i;
        most = lesser;
      }
    }
    return asked;
  }

  public int wider(int floor, int piece, int room) {
    if (!hasStairs(floor) || !now.hasPiece(piece) || !isPlace(room)) {
      return answer(NOBODY);
    }
    House other = thoughtOfNow();
    for (int wide = 0; wide <= MOST_WIDE; wide++) {
      other.wideOfStairs[floor] = wide;
      if (other.canBeCarried(piece, room)) {
        return wide;
      }
    }
    return NONE;
  }

  public int bigger(int piece, int room) {
    if (!now.hasPiece(piece) || !isRoom(room)) {
      return answer(NOBODY);
    }
    House other = thoughtOfNow();
    for (int size = 0; size <= MOST_SIZE; size++) {
      other.sizeOfRoom[room] = size;
      if (other.canBeCarried(piece, room)) {
        return size;
      }
    }
    return NONE;
  }

  public int guest(int room) {
    if (!isPlace(room)) {
      return answer(NOBODY);
    }
    int chair = NONE;
    int least = NONE;
    for (int i = 0; i < now.pieces; i++) {
      if (now.placeOf[i] == room) {
        int blame = now.blameOfPiece(i);
        if (chair == NONE || blame < least) {
          chair = i;
          least = blame;
        }
      }
    }
    return chair;
  }

  public int row(int v) {
    return answer(told.add(v));
  }

  public int fits(int piece) {
    if (!now.hasPiece(piece)) {
      return answer(NOBODY);
    }
    int bits = 0;
    for (int kind = 0; kind < KINDS; kind++) {
      House other = thoughtOfNow();
      other.kind[piece] = kind;
      if (told.firstWrong(other) == NONE) {
        bits |= 1 << kind;
      }
    }
    return bits;
  }

  public int judge() {
    int wrong = told.firstWrong(thoughtOfNow());
    told.clear();
    return wrong;
  }

  public int lots(int n, int z) {
    int refusal = refusalOutside(n, 1, MOST_LOTS);
    if (refusal != FINE) {
      return answer(refusal);
    }
    House drawn = thoughtOfNow();
    int seed = z;
    int sum = 0;
    for (int lot = 0; lot < n; lot++) {
      for (int i = 0; i < drawn.pieces; i++) {
        seed = nextSeed(seed);
        drawn.placeOf[i] = drawnBelow(ROOMS, seed);
      }
      sum += drawn.blameIn(drawn.worstRoom());
    }
    return sum;
  }

  public int image() {
    kept.copyFrom(now);
    isKept = true;
    return now.year;
  }

  public int on() {
    if (!isKept) {
      return answer(STATE);
    }
    now.copyFrom(kept);
    return now.year;
  }

  public int count(int what) {
    switch (what) {
      case 0: return now.pieces;
      case 1: return now.year;
      case 2: return now.heirs;
      case 3: return sumOfFirst(now.bulk, now.pieces);
      case 4: return sumOfFirst(now.fault, now.pieces);
      case 5: return now.pieces - now.piecesIn(ATTIC);
      case 6: return sumOfFirst(now.sizeOfRoom, ROOMS);
      case 7: return told.length;
      case 8: return text.length;
      default: return what >= 11 && what <= 16 ? refusals[what - 10] : NONE;
    }
  }

  /** Hands an answer on, and counts it if it is a refusal. */
  private int answer(int number) {
    if (number >= ABOVE && number <= NOBODY) {
      refusals[-number]++;
    }
    return number;
  }

  private House thoughtOfNow() {
    thought.copyFrom(now);
    return thought;
  }

  private static int refusalOutside(int v, int least, int most) {
    if (v < least) {
      return BELOW;
    }
    return v > most ? ABOVE : FINE;
  }

  /** -1 stands for all. */
  private static boolean isAllOrOneOf(int i, int howMany) {
    return i >= -1 && i < howMany;
  }

  private static int refusalOf(int i) {
    return i < -1 ? BELOW : NOBODY;
  }

  private int blameWithout(int piece) {
    House other = thoughtOfNow();
    other.removePiece(piece);
    return other.blameOfAll();
  }

  private int blameWithoutBoth(int lesser, int other) {
    House rest = thoughtOfNow();
    // The one with the greater number first, else the other's number would no longer be its own.
    rest.removePiece(other);
    rest.removePiece(lesser);
    return rest.blameOfAll();
  }

  private int blameWithFault(int piece, int fault) {
    House other = thoughtOfNow();
    if (other.hasPiece(piece)) {
      other.fault[piece] = fault;
    }
    return other.blameOfAll();
  }

  private boolean anotherFaultMakes(int piece, int v) {
    for (int fault = 0; fault <= MOST_FAULT; fault++) {
      if (fault != now.fault[piece] && blameWithFault(piece, fault) == v) {
        return true;
      }
    }
    return false;
  }

  private int lesserOfBothFaults(int piece, int v) {
    int less = 0;
    for (int fault = 0; fault <= MOST_FAULT; fault++) {
      if (blameWithFault(piece, fault) < v) {
        less++;
      }
    }
    return Math.min(less, MOST_FAULT + 1 - less);
  }

  private static int sumOfFirst(int[] numbers, int length) {
    int sum = 0;
    for (int i = 0; i < length && i < numbers.length; i++) {
      sum += numbers[i];
    }
    return sum;
  }

  private static int nextSeed(int seed) {
    return seed * 1664525 + 1013904223;
  }

  private static int drawnBelow(int m, int seed) {
    return m > 0 ? ((seed & ALL_BUT_THE_SIGN) / 256) % m : 0;
  }

  private static boolean isRoom(int room) {
    return room >= 0 && room < ROOMS;
  }

  /** A room or the attic. */
  private static boolean isPlace(int room) {
    return isRoom(room) || room == ATTIC;
  }

  private static boolean hasStairs(int floor) {
    return floor >= 1 && floor < FLOORS;
  }

  /** All that an image holds: rooms, stairs, heirs, year, pieces. What can be refused answers the refusal. */
  private static final class House {
    private final int[] kind = new int[MOST_PIECES];
    private final int[] bulk = new int[MOST_PIECES];
    private final int[] fault = new int[MOST_PIECES];
    private final int[] age = new int[MOST_PIECES];
    private final int[] placeOf = new int[MOST_PIECES];
    private final int[] sizeOfRoom = new int[ROOMS];
    // By floor; floor 0 has no stairs to it.
    private final int[] wideOfStairs = new int[FLOORS];
    private int pieces = 0;
    private int heirs = LEAST_HEIRS;
    private int year = 0;

    private House() {
      Arrays.fill(sizeOfRoom, FIRST_SIZE);
      Arrays.fill(wideOfStairs, FIRST_WIDE);
    }

    private void copyFrom(House other) {
      System.arraycopy(other.kind, 0, kind, 0, MOST_PIECES);
      System.arraycopy(other.bulk, 0, bulk, 0, MOST_PIECES);
      System.arraycopy(other.fault, 0, fault, 0, MOST_PIECES);
      System.arraycopy(other.age, 0, age, 0, MOST_PIECES);
      System.arraycopy(other.placeOf, 0, placeOf, 0, MOST_PIECES);
      System.arraycopy(other.sizeOfRoom, 0, sizeOfRoom, 0, ROOMS);
      System.arraycopy(other.wideOfStairs, 0, wideOfStairs, 0, FLOORS);
      pieces = other.pieces;
      heirs = other.heirs;
      year = other.year;
    }

    private boolean hasPiece(int piece) {
      return piece >= 0 && piece < pieces && piece < MOST_PIECES;
    }

    private int told(int piece, int what) {
      if (!hasPiece(piece)) {
        return NOBODY;
      }
      switch (what) {
        case 0: return kind[piece];
        case 1: return bulk[piece];
        case 2: return fault[piece];
        case 3: return age[piece];
        case 4: return placeOf[piece];
        case 5: return blameOfPiece(piece);
        case 6: return wideOfPiece(piece);
        default: return OTHER;
      }
    }

    private int addPiece(int itsKind, int itsBulk, int itsFault, int itsAge) {
      if (itsBulk < 1) {
        return BELOW;
      }
      if (pieces >= MOST_PIECES) {
        return ABOVE;
      }
      kind[pieces] = itsKind;
      bulk[pieces] = itsBulk;
      fault[pieces] = itsFault;
      age[pieces] = itsAge;
      placeOf[pieces] = ATTIC;
      pieces++;
      return pieces;
    }

    private void removePiece(int piece) {
      if (!hasPiece(piece)) {
        return;
      }
      for (int i = piece; i + 1 < pieces; i++) {
        kind[i] = kind[i + 1];
        bulk[i] = bulk[i + 1];
        fault[i] = fault[i + 1];
        age[i] = age[i + 1];
        placeOf[i] = placeOf[i + 1];
      }
      pieces--;
    }

    private void emptyRooms() {
      Arrays.fill(placeOf, ATTIC);
    }

    private int blameOfPiece(int piece) {
      if (!hasPiece(piece)) {
        return 0;
      }
      switch (kind[piece]) {
        case SUITE: return blameOfSuite(piece);
        case VENEER: return blameOfVeneer(piece);
        case CLOCK: return fault[piece] + age[piece] / 10;
        case WARDROBE: return blameOfSuite(piece) + fault[piece];
        case TABLE: return blameOfVeneer(piece) / 2;
        default: return fault[piece];
      }
    }

    private int blameOfSuite(int piece) {
      return fault[piece] + BLAME_OF_COMPANY * companyOf(piece);
    }

    private int companyOf(int piece) {
      if (placeOf[piece] == ATTIC) {
        return 0;
      }
      int company = 0;
      for (int i = 0; i < pieces; i++) {
        boolean isSuite = kind[i] == SUITE || kind[i] == WARDROBE;
        if (i != piece && isSuite && placeOf[i] == placeOf[piece]) {
          company++;
        }
      }
      return company;
    }

    private int blameOfVeneer(int piece) {
      if (pieces == 1) {
        return fault[piece] / 2;
      }
      int next = piece + 1 < pieces ? piece + 1 : 0;
      return fault[piece] / 2 + fault[next];
    }

    private int blameIn(int room) {
      int sum = 0;
      for (int i = 0; i < pieces; i++) {
        if (placeOf[i] == room) {
          sum += blameOfPiece(i);
        }
      }
      return sum;
    }

    private int blameOfAll() {
      int sum = 0;
      for (int i = 0; i < pieces; i++) {
        sum += blameOfPiece(i);
      }
      return sum;
    }

    private int worstRoom() {
      int worst = 0;
      int most = blameIn(0);
      for (int room = 1; room < ROOMS; room++) {
        int blame = blameIn(room);
        if (blame > most) {
          worst = room;
          most = blame;
        }
      }
      return worst;
    }

    private int piecesIn(int room) {
      int standing = 0;
      for (int i = 0; i < pieces; i++) {
        if (placeOf[i] == room) {
          standing++;
        }
      }
      return standing;
    }

    private int bulkIn(int room) {
      int sum = 0;
      for (int i = 0; i < pieces; i++) {
        if (placeOf[i] == room) {
          sum += bulk[i];
        }
      }
      return sum;
    }

    private boolean hasSpace(int room, int itsBulk) {
      return isRoom(room) && bulkIn(room) + itsBulk <= sizeOfRoom[room];
    }

    private int wideOfPiece(int piece) {
      if (!hasPiece(piece)) {
        return 0;
      }
      switch (kind[piece]) {
        case VENEER: return bulk[piece] - 1;
        case CLOCK: return bulk[piece] / 2;
        case WARDROBE: return WARDROBE_WIDE;
        default: return bulk[piece];
      }
    }

    private boolean canBeCarried(int piece, int room) {
      if (!hasPiece(piece) || placeOf[piece] == room) {
        return false;
      }
      if (room == ATTIC) {
        return true;
      }
      return hasSpace(room, bulk[piece]) && passesStairs(piece, room);
    }

    private boolean passesStairs(int piece, int room) {
      if (placeOf[piece] == ATTIC) {
        return true;
      }
      int from = placeOf[piece] / ROOMS_ON_A_FLOOR;
      int to = room / ROOMS_ON_A_FLOOR;
      int wide = wideOfPiece(piece);
      for (int floor = 1; floor < FLOORS; floor++) {
        boolean isOnTheWay = floor > Math.min(from, to) && floor <= Math.max(from, to);
        if (isOnTheWay && wide > wideOfStairs[floor]) {
          return false;
        }
      }
      return true;
    }

    private int carryTo(int piece, int room) {
      if (!hasPiece(piece) || !isPlace(room)) {
        return NOBODY;
      }
      if (!canBeCarried(piece, room)) {
        return STATE;
      }
      int was = placeOf[piece];
      placeOf[piece] = room;
      return was;
    }

    private int polishPiece(int piece) {
      if (!hasPiece(piece)) {
        return NOBODY;
      }
      if (fault[piece] >= MOST_FAULT) {
        return STATE;
      }
      fault[piece]++;
      return fault[piece];
    }

    private int resize(int room, int v) {
      if (!isRoom(room)) {
        return NOBODY;
      }
      int refusal = refusalOutside(v, 0, MOST_SIZE);
      if (refusal != FINE) {
        return refusal;
      }
      if (v < bulkIn(room)) {
        return STATE;
      }
      int was = sizeOfRoom[room];
      sizeOfRoom[room] = v;
      return was;
    }

    private int widen(int floor, int v) {
      if (!hasStairs(floor)) {
        return NOBODY;
      }
      int refusal = refusalOutside(v, 0, MOST_WIDE);
      if (refusal != FINE) {
        return refusal;
      }
      int was = wideOfStairs[floor];
      wideOfStairs[floor] = v;
      return was;
    }

    private int nameHeirs(int n) {
      int refusal = refusalOutside(n, LEAST_HEIRS, MOST_HEIRS);
      if (refusal != FINE) {
        return refusal;
      }
      int were = heirs;
      heirs = n;
      return were;
    }

    private int letYearsGoBy(int n) {
      int refusal = refusalOutside(n, 1, Math.min(MOST_YEARS_AT_ONCE, MOST_YEAR - year));
      if (refusal != FINE) {
        return refusal;
      }
      for (int passed = 0; passed < n; passed++) {
        passYear();
      }
      return year;
    }

    private void passYear() {
      year++;
      for (int i = 0; i < pieces; i++) {
        age[i] = Math.min(age[i] + 1, MOST_AGE);
        if (year % YEARS_TO_WEAR == 0 && kind[i] != CLOCK) {
          fault[i] = Math.max(fault[i] - 1, 0);
        }
      }
    }
  }

  /** The letters of a house that is being told. */
  private static final class Text {
    private final int[] letters = new int[MOST_LETTERS];
    private int length = 0;

    private int add(int c) {
      if (c < 0) {
        return BELOW;
      }
      if (c > MOST_LETTER || length >= MOST_LETTERS) {
        return ABOVE;
      }
      letters[length] = c;
      length++;
      return length;
    }

    private void clear() {
      length = 0;
    }

    /** How many statements came into the house, or the fault; with a fault the house is of no use. */
    private int tellInto(House house) {
      int badPlace = firstBadPlace();
      if (badPlace != NONE) {
        return BAD_LETTER - badPlace;
      }
      int statements = 0;
      for (int at = 0; at < length; at += 1 + formBehind(letterAt(at)).length()) {
        if (tellStatement(house, at) < 0) {
          return BAD_STATEMENT - at;
        }
        statements++;
      }
      return statements;
    }

    private int firstBadPlace() {
      int at = 0;
      do {
        String form = formBehind(letterAt(at));
        if (form.isEmpty()) {
          return at;
        }
        at++;
        for (int i = 0; i < form.length(); i++) {
          if (!isAsAsked(form.charAt(i), letterAt(at))) {
            return at;
          }
          at++;
        }
      } while (at < length);
      return NONE;
    }

    /** What must stand behind the first letter of a statement; nothing, if none begins with it. */
    private static String formBehind(int first) {
      switch (first) {
        case 'i': return "k0000;";
        case 'm': return "00;";
        case 'r': return "000;";
        case 's': return "00;";
        case 'h': return "0;";
        case 'y': return "00;";
        case 'p': return "0;";
        default: return "";
      }
    }

    private static boolean isAsAsked(char asked, int letter) {
      switch (asked) {
        case ANY_DIGIT: return letter >= '0' && letter <= '9';
        case ANY_KIND: return kindOfLetter(letter) != NONE;
        default: return letter == asked;
      }
    }

    private int tellStatement(House house, int at) {
      switch (letterAt(at)) {
        case 'i': return house.addPiece(kindOfLetter(letterAt(at + 1)), digitAt(at + 2), digitAt(at + 3), numberAt(at + 4));
        case 'm': return house.carryTo(digitAt(at + 1), digitAt(at + 2));
        case 'r': return house.resize(digitAt(at + 1), numberAt(at + 2));
        case 's': return house.widen(digitAt(at + 1), digitAt(at + 2));
        case 'h': return house.nameHeirs(digitAt(at + 1));
        case 'y': return house.letYearsGoBy(numberAt(at + 1));
        case 'p': return house.polishPiece(digitAt(at + 1));
        default: return OTHER;
      }
    }

    /** NONE behind the end. */
    private int letterAt(int at) {
      return at >= 0 && at < length && at < MOST_LETTERS ? letters[at] : NONE;
    }

    private static int kindOfLetter(int letter) {
      for (int kind = 0; kind < KIND_LETTERS.length(); kind++) {
        if (KIND_LETTERS.charAt(kind) == letter) {
          return kind;
        }
      }
      return NONE;
    }

    private int digitAt(int at) {
      return letterAt(at) - '0';
    }

    private int numberAt(int at) {
      return 10 * digitAt(at) + digitAt(at + 1);
    }
  }

  /** What is told of the blame of all behind 0, 1, .. years. */
  private static final class Row {
    private final int[] numbers = new int[MOST_IN_ROW];
    private int length = 0;

    private int add(int v) {
      if (v < 0) {
        return BELOW;
      }
      if (v > MOST_OF_ROW || length >= MOST_IN_ROW) {
        return ABOVE;
      }
      numbers[length] = v;
      length++;
      return length;
    }

    private void clear() {
      length = 0;
    }

    /** The first number that is not so in the house, whose years go by. */
    private int firstWrong(House house) {
      for (int i = 0; i < length; i++) {
        if (Math.min(house.blameOfAll(), MOST_OF_ROW) != numbers[i]) {
          return i;
        }
        house.passYear();
      }
      return NONE;
    }
  }

  /** Looks for the first of the best ways in which all pieces can stand in told rooms. */
  private static final class Placing {
    private final House house;
    private final int[] bestRooms = new int[MOST_PIECES];
    private int rooms = 0;
    private boolean isForFew = false;
    private int least = UNFOUND;

    private Placing(House house) {
      this.house = house;
    }

    private int search(int toldRooms, boolean forFew) {
      rooms = toldRooms;
      isForFew = forFew;
      least = UNFOUND;
      house.emptyRooms();
      placeFrom(this, 0, 0);
      return least == UNFOUND ? NONE : least;
    }

    private int roomOf(int piece) {
      return house.hasPiece(piece) ? bestRooms[piece] : NONE;
    }

    // What a placing costs never falls with a piece more, so what is no better already is left alone.
    private static void placeFrom(Placing placing, int piece, int cost) {
      if (piece >= placing.house.pieces || piece >= MOST_PIECES) {
        placing.keep(cost);
        return;
      }
      for (int room = 0; room < ROOMS; room++) {
        if (placing.mayStand(piece, room)) {
          placing.house.placeOf[piece] = room;
          int more = placing.costWith(room, cost);
          if (more < placing.least) {
            placeFrom(placing, piece + 1, more);
          }
          placing.house.placeOf[piece] = ATTIC;
        }
      }
    }

    private void keep(int cost) {
      least = cost;
      System.arraycopy(house.placeOf, 0, bestRooms, 0, MOST_PIECES);
    }

    private boolean mayStand(int piece, int room) {
      return ((rooms >> room) & 1) == 1 && house.hasSpace(room, house.bulk[piece]);
    }

    private int costWith(int room, int cost) {
      if (isForFew) {
        return house.piecesIn(room) == 1 ? cost + 1 : cost;
      }
      return Math.max(cost, house.blameIn(room));
    }
  }

  /** Gives all pieces to heirs, by the blame that they have as of now. */
  private static final class Sharing {
    private final int[] blames = new int[MOST_PIECES];
    private final int[] goesTo = new int[MOST_PIECES];
    private final int[] fairest = new int[MOST_PIECES];
    private final int[] share = new int[MOST_HEIRS];
    private int pieces = 0;
    private int heirs = 0;
    private int evenShare = 0;
    private int least = UNFOUND;
    private int lastHeir = NONE;

    private void begin(House house) {
      pieces = Math.min(house.pieces, MOST_PIECES);
      heirs = Math.min(house.heirs, MOST_HEIRS);
      for (int i = 0; i < pieces; i++) {
        blames[i] = house.blameOfPiece(i);
      }
      evenShare = heirs > 0 ? sumOfFirst(blames, pieces) / heirs : 0;
      Arrays.fill(share, 0);
    }

    private void shareFairly(House house) {
      begin(house);
      least = UNFOUND;
      giveFrom(this, 0);
      for (int i = 0; i < pieces; i++) {
        give(i, fairest[i]);
      }
    }

    private static void giveFrom(Sharing sharing, int piece) {
      if (piece >= sharing.pieces) {
        sharing.keepIfFairer();
        return;
      }
      for (int heir = 0; heir < sharing.heirs; heir++) {
        sharing.give(piece, heir);
        if (sharing.canBeFairer(heir)) {
          giveFrom(sharing, piece + 1);
        }
        sharing.takeBack(piece, heir);
      }
    }

    // The least share is an even one at most, and no share falls with a piece more.
    private boolean canBeFairer(int heir) {
      return least > 0 && share[heir] - evenShare < least;
    }

    private void keepIfFairer() {
      int spread = spread();
      if (spread < least) {
        least = spread;
        System.arraycopy(goesTo, 0, fairest, 0, MOST_PIECES);
      }
    }

    private void dealOut(House house) {
      begin(house);
      for (int i = 0; i < pieces; i++) {
        give(i, poorest());
      }
    }

    private void chooseInTurn(House house) {
      begin(house);
      Arrays.fill(goesTo, NONE);
      lastHeir = NONE;
      for (int turn = 0; turn < pieces; turn++) {
        lastHeir = heirs > 0 ? turn % heirs : 0;
        give(leastOfLeft(), lastHeir);
      }
    }

    private int leastOfLeft() {
      int chosen = NONE;
      for (int i = 0; i < pieces; i++) {
        if (goesTo[i] == NONE && (chosen == NONE || blames[i] < blames[chosen])) {
          chosen = i;
        }
      }
      return chosen;
    }

    private void give(int piece, int heir) {
      if (piece >= 0 && piece < pieces && heir >= 0 && heir < heirs) {
        goesTo[piece] = heir;
        share[heir] += blames[piece];
      }
    }

    private void takeBack(int piece, int heir) {
      if (piece >= 0 && piece < pieces && heir >= 0 && heir < heirs) {
        share[heir] -= blames[piece];
      }
    }

    private int poorest() {
      int poorest = 0;
      for (int heir = 1; heir < heirs; heir++) {
        if (share[heir] < share[poorest]) {
          poorest = heir;
        }
      }
      return poorest;
    }

    private int richest() {
      int richest = 0;
      for (int heir = 1; heir < heirs; heir++) {
        if (share[heir] > share[richest]) {
          richest = heir;
        }
      }
      return richest;
    }

    private int spread() {
      return share[richest()] - share[poorest()];
    }

    /** How many have more than another one. */
    private int envied() {
      int envied = 0;
      for (int heir = 0; heir < heirs; heir++) {
        if (share[heir] > share[poorest()]) {
          envied++;
        }
      }
      return envied;
    }

    private int shareOf(int heir) {
      return heir >= 0 && heir < heirs ? share[heir] : NONE;
    }

    private int spreadOrHeirOf(int piece) {
      return piece >= 0 && piece < pieces ? goesTo[piece] : spread();
    }
  }
}
