import java.util.ArrayList;
import java.util.List;
import java.util.regex.Matcher;
import java.util.regex.Pattern;

/**
 * The document once more, as slow and plain as can be: pieces are objects of their kinds, every
 * placing and every sharing is looked at, and a text is read by a regular expression.
 */
final class Model {
  private static final Pattern HOUSE =
      Pattern.compile("(?:i[psvcwt][0-9]{4};|m[0-9]{2};|r[0-9]{3};|s[0-9]{2};|h[0-9];|y[0-9]{2};|p[0-9];)+");

  /** A refusal on its way out. */
  private static final class Refused extends RuntimeException {
    private static final long serialVersionUID = 1;
    private final int number;

    Refused(int number) {
      super(null, null, false, false);
      this.number = number;
    }
  }

  private static class Plain {
    int bulk;
    int fault;
    int age;
    int room = 9;

    char sign() { return 'p'; }
    boolean isSuite() { return false; }
    int blame(State s) { return fault; }
    int wide() { return bulk; }
    void wear() { if (fault > 0) fault--; }
  }

  private static class Suite extends Plain {
    @Override char sign() { return 's'; }
    @Override boolean isSuite() { return true; }
    @Override int blame(State s) {
      int sum = super.blame(s);
      for (Plain other : s.pieces) {
        if (other != this && other.isSuite() && other.room == room && room != 9) sum += 2;
      }
      return sum;
    }
  }

  private static class Veneer extends Plain {
    @Override char sign() { return 'v'; }
    @Override int blame(State s) {
      int half = super.blame(s) / 2;
      if (s.pieces.size() == 1) return half;
      return half + s.pieces.get((s.pieces.indexOf(this) + 1) % s.pieces.size()).fault;
    }
    @Override int wide() { return bulk - 1; }
  }

  private static final class Clock extends Plain {
    @Override char sign() { return 'c'; }
    @Override int blame(State s) { return super.blame(s) + age / 10; }
    @Override int wide() { return bulk / 2; }
    @Override void wear() { }
  }

  private static final class Wardrobe extends Suite {
    @Override char sign() { return 'w'; }
    @Override int blame(State s) { return super.blame(s) + fault; }
    @Override int wide() { return 10; }
  }

  private static final class Table extends Veneer {
    @Override char sign() { return 't'; }
    @Override int blame(State s) { return super.blame(s) / 2; }
    @Override int wide() { return bulk; }
  }

  private static Plain make(char sign, int bulk, int fault, int age, int room) {
    Plain piece = switch (sign) {
      case 's' -> new Suite();
      case 'v' -> new Veneer();
      case 'c' -> new Clock();
      case 'w' -> new Wardrobe();
      case 't' -> new Table();
      default -> new Plain();
    };
    piece.bulk = bulk;
    piece.fault = fault;
    piece.age = age;
    piece.room = room;
    return piece;
  }

  private static final class State {
    final List<Plain> pieces = new ArrayList<>();
    final int[] sizes = {9, 9, 9, 9, 9, 9};
    final int[] wides = {0, 6, 6};
    int heirs = 2;
    int year = 0;

    State copy() {
      State s = new State();
      for (Plain p : pieces) s.pieces.add(make(p.sign(), p.bulk, p.fault, p.age, p.room));
      System.arraycopy(sizes, 0, s.sizes, 0, 6);
      System.arraycopy(wides, 0, s.wides, 0, 3);
      s.heirs = heirs;
      s.year = year;
      return s;
    }

    int blame(int room) {
      return pieces.stream().filter(p -> room == 10 || p.room == room).mapToInt(p -> p.blame(this)).sum();
    }

    int bulk(int room) {
      return pieces.stream().filter(p -> p.room == room).mapToInt(p -> p.bulk).sum();
    }

    int most() {
      int most = 0;
      for (int room = 0; room < 6; room++) most = Math.max(most, blame(room));
      return most;
    }

    boolean can(int piece, int room) {
      Plain p = pieces.get(piece);
      if (p.room == room) return false;
      if (room == 9) return true;
      if (bulk(room) + p.bulk > sizes[room]) return false;
      if (p.room == 9) return true;
      for (int floor = p.room / 2; floor < room / 2; floor++) if (p.wide() > wides[floor + 1]) return false;
      for (int floor = p.room / 2; floor > room / 2; floor--) if (p.wide() > wides[floor]) return false;
      return true;
    }

    void year() {
      year++;
      for (Plain p : pieces) {
        if (p.age < 99) p.age++;
        if (year % 10 == 0) p.wear();
      }
    }

    /** As the document's letters ask, false where it is not as it must be. */
    boolean tell(String statement) {
      int a = statement.length() > 2 ? statement.charAt(1) - '0' : 0;
      int b = statement.length() > 3 ? statement.charAt(2) - '0' : 0;
      int c = statement.length() > 4 ? statement.charAt(3) - '0' : 0;
      switch (statement.charAt(0)) {
        case 'i':
          int age = Integer.parseInt(statement.substring(4, 6));
          if (b == 0 || pieces.size() == 7) return false;
          pieces.add(make(statement.charAt(1), b, c, age, 9));
          return true;
        case 'm':
          if (a >= pieces.size() || b > 5 && b != 9 || !can(a, b)) return false;
          pieces.get(a).room = b;
          return true;
        case 'r':
          if (a > 5 || 10 * b + c > 20 || 10 * b + c < bulk(a)) return false;
          sizes[a] = 10 * b + c;
          return true;
        case 's':
          if (a < 1 || a > 2) return false;
          wides[a] = b;
          return true;
        case 'h':
          if (a < 2 || a > 4) return false;
          heirs = a;
          return true;
        case 'y':
          int years = 10 * a + b;
          if (years < 1 || years > 60 || year + years > 999) return false;
          for (int i = 0; i < years; i++) year();
          return true;
        default:
          if (a >= pieces.size() || pieces.get(a).fault == 9) return false;
          pieces.get(a).fault++;
          return true;
      }
    }
  }

  private State s = new State();
  private State image = null;
  private final StringBuilder letters = new StringBuilder();
  private final List<Integer> row = new ArrayList<>();
  private final int[] refused = new int[7];

  private static void refuse(boolean when, int number) {
    if (when) throw new Refused(number);
  }

  /** The answer to the call of the document's face with that name. */
  int call(String name, int a, int b, int c) {
    try {
      return answer(name, a, b, c);
    } catch (Refused r) {
      refused[-r.number]++;
      return r.number;
    }
  }

  private int answer(String name, int a, int b, int c) {
    switch (name) {
      case "letter": return letter(a);
      case "house": return house();
      case "piece": return piece(a, b);
      case "carry": return carry(a, b);
      case "stands": noPiece(a); noPlace(b); return s.can(a, b) ? 1 : 0;
      case "polish": noPiece(a); refuse(s.pieces.get(a).fault == 9, -3); return ++s.pieces.get(a).fault;
      case "size": return size(a, b);
      case "wide": return wide(a, b);
      case "heirs": between(a, 2, 4); int heirs = s.heirs; s.heirs = a; return heirs;
      case "years": between(a, 1, Math.min(60, 999 - s.year)); for (int i = 0; i < a; i++) s.year(); return s.year;
      case "blame": if (a != 10) noPlace(a); return s.blame(a);
      case "worst": int room = 0; while (s.blame(room) < s.most()) room++; return room;
      case "crowded": int bits = 0; for (int r = 0; r < 6; r++) if (s.sizes[r] == s.bulk(r)) bits += 1 << r; return bits;
      case "placing": return placing(a, b, c);
      case "innocent": refuse(s.pieces.size() > 5, -3); int[] few = place(63, 1); return few == null ? -9 : 6 - few[5];
      case "shares": below(a, -1); refuse(a >= s.pieces.size(), -1); int[] f = fairest(); return a < 0 ? spread(shares(f)) : f[a];
      case "dealt": below(a, -1); refuse(a >= s.pieces.size(), -1); int[] d = dealt(); return a < 0 ? spread(shares(d)) : d[a];
      case "envy": int[] all = shares(fairest()); int envy = 0; for (int one : all) if (one > least(all)) envy++; return envy;
      case "choice": return choice(a);
      default: return more(name, a, b, c);
    }
  }

  private int more(String name, int a, int b, int c) {
    switch (name) {
      case "sell": return sell(a);
      case "burn": return burn();
      case "heavier": return heavier();
      case "later": between(a, 0, 200); return ahead(a).blame(10);
      case "gone": between(a, 0, 999); for (int n = 0; n <= 200; n++) if (ahead(n).blame(10) <= a) return n; return -9;
      case "whose": return whose(a);
      case "ask": return ask(a);
      case "wider": return wider(a, b, c);
      case "bigger": return bigger(a, b);
      case "guest": return guest(a);
      case "row": below(a, 0); refuse(a > 99 || row.size() == 12, -6); row.add(a); return row.size();
      case "fits": return fits(a);
      case "judge": int wrong = judge(s); row.clear(); return wrong;
      case "lots": return lots(a, b);
      case "image": image = s.copy(); return s.year;
      case "on": refuse(image == null, -3); s = image.copy(); return s.year;
      default: return count(a);
    }
  }

  private static void below(int v, int least) {
    refuse(v < least, -4);
  }

  private static void between(int v, int least, int most) {
    below(v, least);
    refuse(v > most, -6);
  }

  private void noPiece(int piece) {
    refuse(piece < 0 || piece >= s.pieces.size(), -1);
  }

  private static void noPlace(int room) {
    refuse(room < 0 || room > 9 || room > 5 && room < 9, -1);
  }

  private static void noRoom(int room) {
    refuse(room < 0 || room > 5, -1);
  }

  private int letter(int c) {
    between(c, 0, 255);
    refuse(letters.length() == 96, -6);
    letters.append((char) c);
    return letters.length();
  }

  private int house() {
    String text = letters.toString();
    letters.setLength(0);
    if (!HOUSE.matcher(text).matches()) {
      for (int length = 1; length <= text.length(); length++) {
        Matcher begun = HOUSE.matcher(text.substring(0, length));
        if (!begun.matches() && !begun.hitEnd()) return -1000 - (length - 1);
      }
      return -1000 - text.length();
    }
    State then = s.copy();
    int at = 0;
    int statements = 0;
    for (String statement : text.split("(?<=;)")) {
      if (!then.tell(statement)) return -2000 - at;
      at += statement.length();
      statements++;
    }
    s = then;
    return statements;
  }

  private int piece(int piece, int what) {
    noPiece(piece);
    refuse(what < 0 || what > 6, -2);
    Plain p = s.pieces.get(piece);
    return new int[] {"psvcwt".indexOf(p.sign()), p.bulk, p.fault, p.age, p.room, p.blame(s), p.wide()}[what];
  }

  private int carry(int piece, int room) {
    noPiece(piece);
    noPlace(room);
    refuse(!s.can(piece, room), -3);
    int was = s.pieces.get(piece).room;
    s.pieces.get(piece).room = room;
    return was;
  }

  private int size(int room, int v) {
    noRoom(room);
    between(v, 0, 20);
    refuse(v < s.bulk(room), -3);
    int was = s.sizes[room];
    s.sizes[room] = v;
    return was;
  }

  private int wide(int floor, int v) {
    refuse(floor < 1 || floor > 2, -1);
    between(v, 0, 9);
    int was = s.wides[floor];
    s.wides[floor] = v;
    return was;
  }

  private int placing(int rooms, int what, int i) {
    refuse(rooms < 1 || i < -1, -4);
    refuse(rooms > 63, -6);
    refuse(what < 0 || what > 1, -2);
    refuse(s.pieces.size() > 5, -3);
    refuse(i >= s.pieces.size(), -1);
    int[] best = place(rooms, what);
    return best == null ? -9 : i < 0 ? best[5] : best[i];
  }

  /** The rooms of the first best placing and behind them, at 5, what it costs. */
  private int[] place(int set, int what) {
    int n = s.pieces.size();
    State t = s.copy();
    int[] best = null;
    for (int code = 0; code < Math.pow(6, n); code++) {
      int[] rooms = digits(code, 6, n);
      for (int i = 0; i < n; i++) t.pieces.get(i).room = rooms[i];
      if (!isPlacing(t, set)) continue;
      int cost = what == 0 ? t.most() : (int) t.pieces.stream().map(p -> p.room).distinct().count();
      if (best == null || cost < best[5]) {
        best = java.util.Arrays.copyOf(rooms, 6);
        best[5] = cost;
      }
    }
    return best;
  }

  private static boolean isPlacing(State t, int set) {
    for (Plain p : t.pieces) if ((set & 1 << p.room) == 0) return false;
    for (int room = 0; room < 6; room++) if (t.bulk(room) > t.sizes[room]) return false;
    return true;
  }

  private static int[] digits(int code, int base, int n) {
    int[] digits = new int[n];
    int rest = code;
    for (int i = n - 1; i >= 0; i--) {
      digits[i] = rest % base;
      rest /= base;
    }
    return digits;
  }

  private int[] fairest() {
    int n = s.pieces.size();
    int[] best = null;
    for (int code = 0; code < Math.pow(s.heirs, n); code++) {
      int[] heirs = digits(code, s.heirs, n);
      if (best == null || spread(shares(heirs)) < spread(shares(best))) best = heirs;
    }
    return best;
  }

  private int[] dealt() {
    int[] heirs = new int[s.pieces.size()];
    int[] shares = new int[s.heirs];
    for (int i = 0; i < heirs.length; i++) {
      while (shares[heirs[i]] > least(shares)) heirs[i]++;
      shares[heirs[i]] += s.pieces.get(i).blame(s);
    }
    return heirs;
  }

  private int[] shares(int[] heirs) {
    int[] shares = new int[s.heirs];
    for (int i = 0; i < heirs.length; i++) shares[heirs[i]] += s.pieces.get(i).blame(s);
    return shares;
  }

  private static int least(int[] shares) {
    return java.util.Arrays.stream(shares).min().getAsInt();
  }

  private static int spread(int[] shares) {
    return java.util.Arrays.stream(shares).max().getAsInt() - least(shares);
  }

  private int choice(int heir) {
    below(heir, -1);
    refuse(heir >= s.heirs, -1);
    int[] blames = s.pieces.stream().mapToInt(p -> p.blame(s)).sorted().toArray();
    int[] shares = new int[s.heirs];
    int last = -9;
    for (int turn = 0; turn < blames.length; turn++) {
      last = turn % s.heirs;
      shares[last] += blames[turn];
    }
    return heir < 0 ? last : shares[heir];
  }

  private int without(int one, int other) {
    State t = s.copy();
    Plain p = t.pieces.get(one);
    Plain q = t.pieces.get(other);
    t.pieces.remove(p);
    t.pieces.remove(q);
    return t.blame(10);
  }

  private int sell(int what) {
    refuse(what < 0 || what > 1, -2);
    int sold = -9;
    for (int i = 0; i < s.pieces.size(); i++) if (sold < 0 || without(i, i) < without(sold, sold)) sold = i;
    return what == 0 || sold < 0 ? sold : without(sold, sold);
  }

  private int burn() {
    int burnt = -9;
    for (int code = 0; code < 77; code++) {
      int i = code / 10;
      int k = code % 10;
      if (i < k && k < s.pieces.size() && (burnt < 0 || without(i, k) < without(burnt / 10, burnt % 10))) burnt = code;
    }
    return burnt;
  }

  private int withFault(int piece, int fault) {
    State t = s.copy();
    t.pieces.get(piece).fault = fault;
    return t.blame(10);
  }

  private int heavier() {
    int heavier = -9;
    int most = -1;
    for (int i = 0; i < s.pieces.size(); i++) {
      int fault = s.pieces.get(i).fault + 1;
      if (fault < 10 && withFault(i, fault) > most) {
        heavier = i;
        most = withFault(i, fault);
      }
    }
    return heavier;
  }

  private State ahead(int years) {
    State t = s.copy();
    for (int i = 0; i < years; i++) t.year();
    return t;
  }

  private int whose(int v) {
    between(v, 0, 999);
    int bits = 0;
    for (int i = 0; i < s.pieces.size(); i++) {
      for (int fault = 0; fault < 10; fault++) {
        if (fault != s.pieces.get(i).fault && withFault(i, fault) == v) bits |= 1 << i;
      }
    }
    return bits;
  }

  private int ask(int v) {
    between(v, 0, 999);
    int asked = -9;
    int most = -1;
    for (int i = 0; i < s.pieces.size(); i++) {
      int reached = 0;
      for (int fault = 0; fault < 10; fault++) if (withFault(i, fault) >= v) reached++;
      if (Math.min(reached, 10 - reached) > most) {
        asked = i;
        most = Math.min(reached, 10 - reached);
      }
    }
    return asked;
  }

  private int wider(int floor, int piece, int room) {
    refuse(floor < 1 || floor > 2, -1);
    noPiece(piece);
    noPlace(room);
    for (int wide = 0; wide < 10; wide++) {
      State t = s.copy();
      t.wides[floor] = wide;
      if (t.can(piece, room)) return wide;
    }
    return -9;
  }

  private int bigger(int piece, int room) {
    noPiece(piece);
    noRoom(room);
    for (int size = 0; size < 21; size++) {
      State t = s.copy();
      t.sizes[room] = size;
      if (t.can(piece, room)) return size;
    }
    return -9;
  }

  private int guest(int room) {
    noPlace(room);
    int guest = -9;
    for (int i = s.pieces.size() - 1; i >= 0; i--) {
      Plain p = s.pieces.get(i);
      if (p.room == room && (guest < 0 || p.blame(s) <= s.pieces.get(guest).blame(s))) guest = i;
    }
    return guest;
  }

  private int judge(State t) {
    State then = t.copy();
    for (int i = 0; i < row.size(); i++) {
      if (Math.min(99, then.blame(10)) != row.get(i)) return i;
      then.year();
    }
    return -9;
  }

  private int fits(int piece) {
    noPiece(piece);
    int bits = 0;
    for (int kind = 0; kind < 6; kind++) {
      State t = s.copy();
      Plain p = t.pieces.get(piece);
      t.pieces.set(piece, make("psvcwt".charAt(kind), p.bulk, p.fault, p.age, p.room));
      if (judge(t) == -9) bits |= 1 << kind;
    }
    return bits;
  }

  private int lots(int n, int z) {
    between(n, 1, 20);
    State t = s.copy();
    long seed = Integer.toUnsignedLong(z);
    int sum = 0;
    for (int i = 0; i < n; i++) {
      for (Plain p : t.pieces) {
        seed = (seed * 1664525L + 1013904223L) % 4294967296L;
        p.room = (int) (seed % 2147483648L / 256 % 6);
      }
      sum += t.most();
    }
    return sum;
  }

  private int count(int what) {
    switch (what) {
      case 0: return s.pieces.size();
      case 1: return s.year;
      case 2: return s.heirs;
      case 3: return s.pieces.stream().mapToInt(p -> p.bulk).sum();
      case 4: return s.pieces.stream().mapToInt(p -> p.fault).sum();
      case 5: return (int) s.pieces.stream().filter(p -> p.room != 9).count();
      case 6: return java.util.Arrays.stream(s.sizes).sum();
      case 7: return row.size();
      case 8: return letters.length();
      default: return what > 10 && what < 17 ? refused[what - 10] : -9;
    }
  }
}
