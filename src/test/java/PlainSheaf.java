import java.util.ArrayList;
import java.util.List;
import java.util.regex.Matcher;
import java.util.regex.Pattern;

/**
 * The document once more, told as literally as can be and with no thought of speed or room:
 * days are reaped one by one, games are played out, kinds are classes. ModelTest sets it
 * against the program.
 */
final class PlainSheaf {
  static final int LOW = -1000001;
  static final String[] WORDS = {"farm", "lame", "proud", "sly", "deep", "machine", "old"};

  /** A finding, thrown to where it is counted. */
  static final class Found extends RuntimeException {
    final int which;

    Found(int which) {
      super(null, null, false, false);
      this.which = which;
    }
  }

  static class Kind {
    int reaps(F f, int wet, int left) {
      return Math.max(1, 2 * f.hands - wet / 10);
    }

    int tells(F f) {
      return 1;
    }
  }

  static class Lame extends Kind {
    @Override int reaps(F f, int wet, int left) {
      return Math.max(1, super.reaps(f, wet, left) / 2);
    }

    @Override int tells(F f) {
      return super.tells(f) + 1;
    }
  }

  static class Old extends Lame {
    @Override int reaps(F f, int wet, int left) {
      return Math.max(1, super.reaps(f, wet, left) - 1);
    }

    @Override int tells(F f) {
      return 2 * super.tells(f);
    }
  }

  static class Proud extends Kind {
    @Override int reaps(F f, int wet, int left) {
      return Math.max(1, super.reaps(f, wet, left) + 3);
    }

    @Override int tells(F f) {
      return super.tells(f) + 2;
    }
  }

  static class Sly extends Proud {
    @Override int reaps(F f, int wet, int left) {
      int all = super.reaps(f, wet, left);
      return left <= 20 ? Math.max(1, all / 2) : all;
    }

    @Override int tells(F f) {
      return 0 - super.tells(f);
    }
  }

  static class Deep extends Sly {
    @Override int reaps(F f, int wet, int left) {
      return left <= 5 ? 1 : super.reaps(f, wet, left);
    }

    @Override int tells(F f) {
      return super.tells(f) + Math.min(f.had, 9);
    }
  }

  static class Machine extends Kind {
    @Override int reaps(F f, int wet, int left) {
      return wet < 50 ? 30 : 2;
    }

    @Override int tells(F f) {
      return 0;
    }
  }

  static final Kind[] KINDS = {new Kind(), new Lame(), new Proud(), new Sly(), new Deep(), new Machine(), new Old()};

  /** A farm. */
  static final class F {
    int kind;
    int field;
    int hands = 4;
    int opinion;
    int had;

    F(int kind, int field) {
      this.kind = kind;
      this.field = field;
    }

    F twin() {
      F f = new F(kind, field);
      f.hands = hands;
      f.opinion = opinion;
      f.had = had;
      return f;
    }
  }

  /** What an image keeps. */
  static final class World {
    int[] weather = new int[3];
    List<F> farms = new ArrayList<>();
    int year;
    int z = 1;
    int[] spots = {-1, -1, -1, -1, -1, -1, -1, -1, -1, -1};

    World twin() {
      World w = new World();
      w.weather = weather.clone();
      for (F f : farms) {
        w.farms.add(f.twin());
      }
      w.year = year;
      w.z = z;
      w.spots = spots.clone();
      return w;
    }

    int reaps(F f, int left) {
      return KINDS[f.kind].reaps(f, weather[0], left);
    }

    int days(F f) {
      int left = f.field;
      int days = 0;
      while (left > 0) {
        left -= reaps(f, left);
        days++;
      }
      return days;
    }

    boolean isLast(int i) {
      return farms.stream().allMatch(f -> days(f) <= days(farms.get(i)));
    }

    boolean isFirst(int i) {
      return farms.stream().allMatch(f -> days(f) >= days(farms.get(i)));
    }

    int last() {
      int set = 0;
      for (int i = 0; i < farms.size(); i++) {
        set += isLast(i) ? 1 << i : 0;
      }
      return set;
    }

    int first() {
      int set = 0;
      for (int i = 0; i < farms.size(); i++) {
        set += isFirst(i) ? 1 << i : 0;
      }
      return set;
    }

    int lean() {
      int lean = 0;
      for (int i = 0; i < farms.size(); i++) {
        F f = farms.get(i);
        int counts = f.opinion * KINDS[f.kind].tells(f);
        lean += isLast(i) ? counts + counts + counts : counts;
      }
      for (int tenth = weather[1] / 10; tenth > 0; tenth--) {
        lean += lean > 0 ? -1 : lean < 0 ? 1 : 0;
      }
      return weather[2] >= 60 ? 0 - lean : lean;
    }

    int answer(int q) {
      return lean() >= q ? 1 : 0;
    }

    World year() {
      World w = twin();
      int lean = lean();
      for (int i = 0; i < farms.size(); i++) {
        F f = w.farms.get(i);
        if (isLast(i)) {
          f.had = Math.min(9999, f.had + 1);
          f.hands = Math.min(20, f.hands + 1);
        }
        if (isFirst(i) && !isLast(i)) {
          f.hands = Math.max(1, f.hands - 1);
        }
        if (!isLast(i) && lean > 0) {
          f.opinion = Math.min(9, f.opinion + 1);
        }
        if (!isLast(i) && lean < 0) {
          f.opinion = Math.max(-9, f.opinion - 1);
        }
      }
      w.year = Math.min(99999, year + 1);
      return w;
    }

    World behind(int n) {
      World w = this;
      for (int i = 0; i < n; i++) {
        w = w.year();
      }
      return w;
    }

    int sum(int what) {
      int sum = 0;
      for (F f : farms) {
        sum += what == 1 ? f.field : what == 2 ? f.hands : f.opinion;
      }
      return sum;
    }
  }

  World now = new World();
  World kept = null;
  List<Integer> tape = new ArrayList<>();
  Object[] sheets = new Object[4];
  int[] counted = new int[7];

  private static void beyond(boolean is) {
    found(is, 0);
  }

  private static void found(boolean is, int which) {
    if (is) {
      throw new Found(which);
    }
  }

  private static boolean out(int v, int least, int most) {
    return v < least || v > most;
  }

  private F at(int farm) {
    beyond(out(farm, 0, now.farms.size() - 1));
    return now.farms.get(farm);
  }

  /** Any call by its name; what it finds is counted here. */
  long call(String name, int... a) {
    try {
      return answer(name, a);
    } catch (Found f) {
      counted[f.which]++;
      return LOW - f.which;
    }
  }

  private long answer(String name, int[] a) {
    switch (name) {
      case "weather": return weather(a[0], a[1]);
      case "farm": return farm(a[0], a[1]);
      case "of": return of(a[0], a[1]);
      case "change": return change(a[0], a[1], a[2]);
      case "left": return left(a[0], a[1]);
      case "last": return now.last();
      case "first": return now.first();
      case "next": return next();
      case "lean": return now.lean();
      case "answer": beyond(out(a[0], -99, 99)); return now.answer(a[0]);
      case "go": return go(a[0]);
      case "now": return nowIs(a[0]);
      case "holder": beyond(out(a[0], 0, 60)); return now.behind(a[0]).last();
      case "ahead": return ahead(a[0], a[1], a[2]);
      case "leans": beyond(out(a[0], 0, 60)); return now.behind(a[0]).lean();
      case "when": return when(a[0]);
      case "tie": return tie();
      case "turns": return turns(a[0]);
      case "mostHands": return mostHands(a[0]);
      case "fewestHands": return fewestHands(a[0]);
      case "lend": return lend(a[0]);
      case "kinds": return kinds(a[0]);
      case "wetFor": return wetFor(a[0]);
      case "tell": return tell(a[0], a[1]);
      case "voice": return voice();
      case "miceFor": return miceFor(a[0], a[1]);
      case "wins": beyond(out(a[0], 1, 200) || out(a[1], 1, 20)); return move(a[0], a[1]) > 0 ? 1 : 0;
      case "cut": return cut(a[0], a[1]);
      case "fits": return fitting(a[0], a[1]).size();
      case "thinks": return thinks(a[0], a[1]);
      case "weathers": return weathers(a[0]);
      case "odds": return odds(a[0], a[1]);
      case "seed": { int was = now.z; now.z = a[0]; return was; }
      case "feed": return feed(a[0], a[1]);
      case "wipe": { int had = tape.size(); tape.clear(); return had; }
      case "text": return text();
      case "hold": return hold(a[0], a[1]);
      case "as": return as(a[0], a[1]);
      case "sheet": return sheet(a[0], a[1], a[2]);
      case "write": return write(a[0], a[1], a[2]);
      case "copy": return copy(a[0], a[1], a[2], a[3], a[4]);
      case "load": return load(a[0]);
      case "judge": return judge(a[0]);
      case "image": kept = now.twin(); return 1;
      case "undo": found(kept == null, 3); now = kept.twin(); return now.year;
      case "tear": { int was = kept == null ? 0 : 1; kept = null; return was; }
      case "count": return count(a[0]);
      case "status": return status(a[0]);
      default: throw new IllegalStateException(name);
    }
  }

  private int weather(int what, int v) {
    beyond(out(what, 0, 2) || out(v, 0, 99));
    int was = now.weather[what];
    now.weather[what] = v;
    return was;
  }

  private int farm(int kind, int field) {
    beyond(out(kind, 0, 6) || out(field, 0, 999));
    found(now.farms.size() == 8, 1);
    now.farms.add(new F(kind, field));
    return now.farms.size() - 1;
  }

  private int of(int farm, int what) {
    F f = at(farm);
    beyond(out(what, 0, 7));
    int[] all = {f.kind, f.field, f.hands, f.opinion, f.had, now.reaps(f, f.field), now.days(f), KINDS[f.kind].tells(f)};
    return all[what];
  }

  private int change(int farm, int what, int v) {
    F f = at(farm);
    beyond(out(what, 0, 4));
    int was = of(farm, what);
    switch (what) {
      case 0: beyond(out(v, 0, 6)); f.kind = v; break;
      case 1: beyond(out(v, 0, 999)); f.field = v; break;
      case 2: beyond(out(v, 1, 20)); f.hands = v; break;
      case 3: beyond(out(v, -9, 9)); f.opinion = v; break;
      default: beyond(out(v, 0, 9999)); f.had = v; break;
    }
    return was;
  }

  private int left(int farm, int n) {
    F f = at(farm);
    beyond(out(n, 0, 999));
    int left = f.field;
    for (int day = 0; day < n && left > 0; day++) {
      left = Math.max(0, left - now.reaps(f, left));
    }
    return left;
  }

  private int next() {
    int most = -1;
    for (int i = 0; i < now.farms.size(); i++) {
      if (!now.isLast(i)) {
        most = Math.max(most, now.days(now.farms.get(i)));
      }
    }
    int set = 0;
    for (int i = 0; i < now.farms.size(); i++) {
      set += now.days(now.farms.get(i)) == most ? 1 << i : 0;
    }
    return set;
  }

  private int go(int n) {
    beyond(out(n, 1, 60));
    found(now.year + n > 99999, 4);
    now = now.behind(n).twin();
    return now.lean();
  }

  private int nowIs(int what) {
    beyond(out(what, 0, 5));
    switch (what) {
      case 0: return now.year;
      case 1: return now.sum(2);
      case 2: return now.sum(3);
      case 3: {
        int set = 0;
        for (int i = 0; i < now.farms.size(); i++) {
          set += now.farms.get(i).had > 0 ? 1 << i : 0;
        }
        return set;
      }
      case 4: return now.sum(1);
      default: return now.farms.stream().mapToInt(now::days).max().orElse(0);
    }
  }

  private int ahead(int farm, int what, int n) {
    at(farm);
    beyond(out(what, 2, 4) || out(n, 0, 60));
    F f = now.behind(n).farms.get(farm);
    return what == 2 ? f.hands : what == 3 ? f.opinion : f.had;
  }

  private int when(int farm) {
    at(farm);
    World w = now;
    for (int n = 0; n <= 60; n++, w = w.year()) {
      if (w.isLast(farm)) {
        return n;
      }
    }
    throw new Found(3);
  }

  private int tie() {
    World w = now;
    for (int n = 0; n <= 60; n++, w = w.year()) {
      if (Integer.bitCount(w.last()) > 1) {
        return n;
      }
    }
    throw new Found(3);
  }

  private int turns(int q) {
    beyond(out(q, -99, 99));
    World w = now;
    for (int n = 0; n <= 60; n++, w = w.year()) {
      if (w.answer(q) != now.answer(q)) {
        return n;
      }
    }
    throw new Found(3);
  }

  private int mostHands(int farm) {
    at(farm);
    int most = 0;
    for (int hands = 1; hands <= 20; hands++) {
      World w = now.twin();
      w.farms.get(farm).hands = hands;
      most = w.isLast(farm) ? hands : most;
    }
    found(most == 0, 3);
    return most;
  }

  private int fewestHands(int farm) {
    at(farm);
    int fewest = 0;
    for (int hands = 20; hands >= 1; hands--) {
      World w = now.twin();
      w.farms.get(farm).hands = hands;
      fewest = w.isFirst(farm) ? hands : fewest;
    }
    found(fewest == 0, 3);
    return fewest;
  }

  private int lend(int farm) {
    at(farm);
    int least = 64;
    for (int i = 0; i < now.farms.size(); i++) {
      for (int j = 0; j < now.farms.size(); j++) {
        World w = now.twin();
        if (i != j && w.farms.get(i).hands > 1 && w.farms.get(j).hands < 20) {
          w.farms.get(i).hands--;
          w.farms.get(j).hands++;
          least = w.isLast(farm) ? Math.min(least, 8 * i + j) : least;
        }
      }
    }
    found(least == 64, 3);
    return least;
  }

  private int kinds(int farm) {
    at(farm);
    int set = 0;
    for (int kind = 0; kind < 7; kind++) {
      World w = now.twin();
      w.farms.get(farm).kind = kind;
      set += w.isLast(farm) ? 1 << kind : 0;
    }
    return set;
  }

  private int wetFor(int farm) {
    at(farm);
    for (int wet = 0; wet < 100; wet++) {
      World w = now.twin();
      w.weather[0] = wet;
      if (w.isLast(farm)) {
        return wet;
      }
    }
    throw new Found(3);
  }

  private int tell(int q, int v) {
    beyond(out(q, -99, 99) || out(v, -9, 9));
    for (int fewest = 0; fewest <= now.farms.size(); fewest++) {
      for (int set = 0; set < 1 << now.farms.size(); set++) {
        if (Integer.bitCount(set) == fewest && told(set, v).answer(q) == 1) {
          return set;
        }
      }
    }
    throw new Found(3);
  }

  private World told(int set, int v) {
    World w = now.twin();
    for (int i = 0; i < w.farms.size(); i++) {
      if ((set & 1 << i) != 0) {
        w.farms.get(i).opinion = v;
      }
    }
    return w;
  }

  private int voice() {
    found(now.farms.isEmpty(), 3);
    int best = 0;
    for (int i = 1; i < now.farms.size(); i++) {
      if (Math.abs(told(1 << i, 0).lean() - now.lean()) > Math.abs(told(1 << best, 0).lean() - now.lean())) {
        best = i;
      }
    }
    return best;
  }

  private int miceFor(int q, int v) {
    beyond(out(q, -99, 99) || out(v, 0, 1));
    for (int mice = 0; mice < 100; mice++) {
      World w = now.twin();
      w.weather[1] = mice;
      if (w.answer(q) == v) {
        return mice;
      }
    }
    throw new Found(3);
  }

  /** The game played out from its end: the least cut after which the other one can't win, 0 if none. */
  static int move(int left, int most) {
    int[] winning = new int[left + 1];
    // With nothing left the other one has just taken the last sheaf, so who is to cut has won.
    boolean[] wins = new boolean[left + 1];
    wins[0] = true;
    for (int n = 1; n <= left; n++) {
      for (int k = Math.min(n, most); k >= 1; k--) {
        if (!wins[n - k]) {
          winning[n] = k;
          wins[n] = true;
        }
      }
    }
    return winning[left];
  }

  private int cut(int left, int most) {
    beyond(out(left, 1, 200) || out(most, 1, 20));
    found(move(left, most) == 0, 3);
    return move(left, most);
  }

  private Object there(int s) {
    beyond(out(s, 0, 3));
    found(sheets[s] == null, 5);
    return sheets[s];
  }

  private static int length(Object sheet) {
    return java.lang.reflect.Array.getLength(sheet);
  }

  private static int number(Object sheet, int i) {
    return ((Number) java.lang.reflect.Array.get(sheet, i)).intValue();
  }

  private List<Integer> fitting(int s, int farm) {
    Object sheet = there(s);
    at(farm);
    List<Integer> fit = new ArrayList<>();
    for (int opinion = -9; opinion <= 9; opinion++) {
      World w = now.twin();
      w.farms.get(farm).opinion = opinion;
      boolean is = true;
      for (int i = 0; i < length(sheet) && is; i++, w = w.year()) {
        is = number(sheet, i) == 9999 || number(sheet, i) == w.lean();
      }
      if (is) {
        fit.add(opinion);
      }
    }
    return fit;
  }

  private int thinks(int s, int farm) {
    List<Integer> fit = fitting(s, farm);
    found(fit.isEmpty(), 3);
    return fit.get(0);
  }

  private int weathers(int n) {
    beyond(out(n, 1, 20));
    found(now.year + n > 99999, 4);
    for (int i = 0; i < n; i++) {
      for (int what = 0; what <= 2; what += 2) {
        now.z = (int) (now.z * 1103515245L + 12345L);
        now.weather[what] = (int) ((now.z & 0xFFFFFFFFL) / 256 % 100);
      }
      now = now.year();
    }
    return now.lean();
  }

  private long odds(int n, int what) {
    beyond(out(n, 0, 12) || out(what, 0, 1));
    java.math.BigInteger above = java.math.BigInteger.valueOf(60).pow(n);
    java.math.BigInteger below = java.math.BigInteger.valueOf(100).pow(n);
    return (what == 0 ? above : below).divide(above.gcd(below)).longValueExact();
  }

  private int feed(int bytes, int n) {
    beyond(out(n, 1, 4));
    found(tape.size() + n > 120, 1);
    for (int i = n; i >= 1; i--) {
      tape.add(bytes >> 8 * i - 8 & 255);
    }
    return tape.size();
  }

  private int text() {
    StringBuilder all = new StringBuilder();
    for (int b : tape) {
      all.append((char) b);
    }
    tape.clear();
    World w = now.twin();
    List<String> tokens = new ArrayList<>();
    List<Integer> places = new ArrayList<>();
    Matcher m = Pattern.compile("[a-z]+|[0-9]+|[^ ]", Pattern.DOTALL).matcher(all);
    while (m.find()) {
      tokens.add(m.group());
      places.add(m.start());
    }
    tokens.add("");
    places.add(all.length());
    int items = 0;
    int i = 0;
    while (true) {
      int next = item(w, tokens, i);
      if (next < 0) {
        return -1 - places.get(-1 - next);
      }
      items++;
      if (tokens.get(next).isEmpty()) {
        now = w;
        return items;
      }
      if (!tokens.get(next).equals(";")) {
        return -1 - places.get(next);
      }
      i = next + 1;
    }
  }

  /** The token behind the item that begins at token i, or -1 less the one that can't stand there. */
  private static int item(World w, List<String> tokens, int i) {
    int kind = List.of(WORDS).indexOf(tokens.get(i));
    int what = List.of("wet", "mice", "rain").indexOf(tokens.get(i));
    if (kind < 0 && what < 0 || kind >= 0 && w.farms.size() == 8) {
      return -1 - i;
    }
    i++;
    if (!isNumber(tokens.get(i), 0, kind >= 0 ? 999 : 99)) {
      return -1 - i;
    }
    int number = new java.math.BigInteger(tokens.get(i++)).intValue();
    if (what >= 0) {
      w.weather[what] = number;
      return i;
    }
    F f = new F(kind, number);
    w.farms.add(f);
    if (tokens.get(i).equals("hands")) {
      i++;
      if (!isNumber(tokens.get(i), 1, 20)) {
        return -1 - i;
      }
      f.hands = new java.math.BigInteger(tokens.get(i++)).intValue();
    }
    if (tokens.get(i).equals("thinks")) {
      i++;
      int sign = 1;
      if (tokens.get(i).equals("-")) {
        sign = -1;
        i++;
      }
      if (!isNumber(tokens.get(i), 0, 9)) {
        return -1 - i;
      }
      f.opinion = sign * new java.math.BigInteger(tokens.get(i++)).intValue();
    }
    return i;
  }

  private static boolean isNumber(String token, int least, int most) {
    if (!token.matches("[0-9]+")) {
      return false;
    }
    java.math.BigInteger n = new java.math.BigInteger(token);
    return n.compareTo(java.math.BigInteger.valueOf(least)) >= 0 && n.compareTo(java.math.BigInteger.valueOf(most)) <= 0;
  }

  private int hold(int spot, int farm) {
    beyond(out(spot, 0, 9) || out(farm, -1, now.farms.size() - 1));
    now.spots[spot] = farm;
    return 1;
  }

  private int as(int spot, int kind) {
    beyond(out(spot, 0, 9) || out(kind, 0, 6));
    found(now.spots[spot] == -1, 5);
    found(!KINDS[kind].getClass().isInstance(KINDS[now.farms.get(now.spots[spot]).kind]), 2);
    return now.spots[spot];
  }

  private int sheet(int s, int bits, int n) {
    beyond(out(s, 0, 3) || bits != 0 && bits != 8 && bits != 16 && bits != 32);
    found(n < 0, 6);
    beyond(n > 40);
    sheets[s] = bits == 0 ? null : bits == 8 ? new byte[n] : bits == 16 ? new short[n] : new int[n];
    return bits == 0 ? 0 : n;
  }

  private int write(int s, int i, int v) {
    Object sheet = there(s);
    beyond(out(i, 0, length(sheet) - 1));
    if (sheet instanceof byte[] b) {
      b[i] = (byte) v;
    } else if (sheet instanceof short[] b) {
      b[i] = (short) v;
    } else {
      ((int[]) sheet)[i] = v;
    }
    return 1;
  }

  private int copy(int s, int from, int t, int to, int n) {
    beyond(out(s, 0, 3) || out(t, 0, 3));
    found(sheets[s] == null || sheets[t] == null, 5);
    found(sheets[s].getClass() != sheets[t].getClass(), 2);
    beyond(from < 0 || to < 0 || n < 0 || (long) from + n > length(sheets[s]) || (long) to + n > length(sheets[t]));
    System.arraycopy(sheets[s], from, sheets[t], to, n);
    return n;
  }

  private int load(int s) {
    Object sheet = there(s);
    int came = 0;
    for (int i = 0; i < length(sheet); i++) {
      if (i >= now.farms.size() || out(number(sheet, i), 0, 999)) {
        return came;
      }
      now.farms.get(i).field = number(sheet, i);
      came++;
    }
    return came;
  }

  private int judge(int s) {
    Object sheet = there(s);
    for (int i = 0; i < length(sheet); i++) {
      if (i >= now.farms.size() || now.days(now.farms.get(i)) != number(sheet, i)) {
        return 1 + i;
      }
    }
    return 0;
  }

  private int count(int what) {
    beyond(out(what, 0, 7));
    int held = 0;
    for (int spot : now.spots) {
      held += spot >= 0 ? 1 : 0;
    }
    int[] all = {now.year, now.farms.size(), Integer.bitCount(now.last()), now.sum(2), now.sum(3), tape.size(), now.z, held};
    return all[what];
  }

  private int status(int which) {
    beyond(out(which, -1, 6));
    int all = 0;
    for (int c : counted) {
      all += c;
    }
    return which < 0 ? all : counted[which];
  }
}
