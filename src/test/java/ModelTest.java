import java.lang.reflect.Method;
import java.util.ArrayList;
import java.util.Arrays;
import java.util.List;
import java.util.Random;

/** Runs of calls drawn by fixed seeds, each answered by the program and by PlainSheaf: every promise. */
public final class ModelTest {
  private static final int RUNS = 400;
  private static final int CALLS = 512;
  private static final int[] EDGES = {Integer.MIN_VALUE, -1000001, -100, -99, -10, -9, -1, 0, 1, 2, 5, 6, 7, 8, 9, 10,
    12, 13, 16, 19, 20, 21, 32, 39, 40, 41, 60, 61, 99, 100, 120, 199, 200, 201, 998, 999, 1000, 9998, 9999, 10000,
    1 << 30, Integer.MAX_VALUE - 1, Integer.MAX_VALUE};
  private static final String[] PIECES = {"farm", "lame", "proud", "sly", "deep", "machine", "old", "wet", "mice",
    "rain", "hands", "thinks", "-", ";", " ", "  ", "0", "1", "9", "10", "20", "21", "99", "100", "999", "1000",
    "007", "99999999999", "farms", "F", "\t", "\u00e9", "x"};

  private static final Method[] FACE = face();

  private static Method[] face() {
    List<Method> all = new ArrayList<>();
    for (Method m : SheafVotes.class.getDeclaredMethods()) {
      if (java.lang.reflect.Modifier.isPublic(m.getModifiers())) {
        all.add(m);
      }
    }
    all.sort((a, b) -> a.getName().compareTo(b.getName()));
    return all.toArray(new Method[0]);
  }

  private static Method named(String name) {
    for (Method m : FACE) {
      if (m.getName().equals(name)) {
        return m;
      }
    }
    throw new IllegalStateException(name);
  }

  private static long ask(SheafVotes x, Method m, int[] args) throws Exception {
    Object[] boxed = new Object[args.length];
    for (int i = 0; i < args.length; i++) {
      boxed[i] = args[i];
    }
    return ((Number) m.invoke(x, boxed)).longValue();
  }

  /** Arguments that mostly hit: the ranges that the document names for each call, and a bit around them. */
  private static int[] likely(Random r, String name, int arity) {
    int farm = r.nextInt(9);
    int q = r.nextInt(60) - 30;
    switch (name) {
      case "weather": return new int[] {r.nextInt(3), r.nextInt(100)};
      case "farm": return new int[] {r.nextInt(7), r.nextInt(4) == 0 ? r.nextInt(1000) : r.nextInt(60)};
      case "of": return new int[] {farm, r.nextInt(8)};
      case "change": return changes(r, farm);
      case "left": return new int[] {farm, r.nextInt(3) == 0 ? r.nextInt(1000) : r.nextInt(12)};
      case "ahead": return new int[] {farm, 2 + r.nextInt(3), r.nextInt(61)};
      case "go": return new int[] {1 + r.nextInt(r.nextInt(4) == 0 ? 60 : 3)};
      case "tell": return new int[] {r.nextBoolean() ? q : 3 * q, r.nextInt(19) - 9};
      case "miceFor": return new int[] {q, r.nextInt(2)};
      case "turns": case "answer": return new int[] {q};
      case "wins": case "cut": return new int[] {1 + r.nextInt(200), 1 + r.nextInt(20)};
      case "fits": case "thinks": return new int[] {r.nextInt(4), farm};
      case "holder": case "leans": return new int[] {r.nextInt(61)};
      case "weathers": return new int[] {1 + r.nextInt(5)};
      case "odds": return new int[] {r.nextInt(13), r.nextInt(2)};
      case "seed": return new int[] {r.nextInt()};
      case "hold": return new int[] {r.nextInt(10), r.nextInt(10) - 1};
      case "as": return new int[] {r.nextInt(10), r.nextInt(7)};
      case "sheet": return new int[] {r.nextInt(4), 8 * (1 << r.nextInt(3)), r.nextInt(6)};
      case "write": return new int[] {r.nextInt(4), r.nextInt(6), written(r)};
      case "copy": return new int[] {r.nextInt(4), r.nextInt(4), r.nextInt(4), r.nextInt(4), r.nextInt(4)};
      case "now": case "count": return new int[] {r.nextInt(8)};
      case "status": return new int[] {r.nextInt(8) - 1};
      default: {
        int[] args = new int[arity];
        Arrays.fill(args, farm);
        return args;
      }
    }
  }

  private static int written(Random r) {
    switch (r.nextInt(4)) {
      case 0: return 9999;
      case 1: return r.nextInt();
      case 2: return r.nextInt(1000);
      default: return r.nextInt(30) - 15;
    }
  }

  private static int[] changes(Random r, int farm) {
    int[] least = {0, 0, 1, -9, 0};
    int[] most = {6, 999, 20, 9, 9999};
    int what = r.nextInt(5);
    int v = least[what] + r.nextInt(most[what] - least[what] + 1);
    return new int[] {farm, what, what == 1 && r.nextInt(4) != 0 ? v % 50 : what == 4 ? v % 12 : v};
  }

  private static int[] wild(Random r, int arity) {
    int[] args = new int[arity];
    for (int i = 0; i < arity; i++) {
      args[i] = EDGES[r.nextInt(EDGES.length)];
    }
    return args;
  }

  private static void same(long run, SheafVotes x, PlainSheaf plain, String name, int[] args) throws Exception {
    Due.due("run " + run + ": " + name + Arrays.toString(args), ask(x, named(name), args), plain.call(name, args));
  }

  private static void sameText(long run, Random r, SheafVotes x, PlainSheaf plain) throws Exception {
    StringBuilder text = new StringBuilder();
    int items = 1 + r.nextInt(4);
    for (int i = 0; i < items; i++) {
      text.append(i > 0 ? ";" : "").append(PIECES[r.nextInt(10)]).append(' ').append(r.nextInt(105));
      text.append(r.nextInt(3) == 0 ? "hands" + r.nextInt(22) : "");
      text.append(r.nextInt(3) == 0 ? "thinks" + (r.nextBoolean() ? "-" : " ") + r.nextInt(11) : "");
    }
    while (r.nextInt(3) == 0) {
      text.insert(r.nextInt(text.length() + 1), PIECES[r.nextInt(PIECES.length)]);
    }
    for (int i = 0; i < text.length(); i++) {
      same(run, x, plain, "feed", new int[] {text.charAt(i), 1});
    }
    same(run, x, plain, "text", new int[0]);
  }

  /** A sheet that tells what the leans will be, but perhaps for one: drawn numbers would hardly ever fit. */
  private static void sameLeans(long run, Random r, SheafVotes x, PlainSheaf plain) throws Exception {
    int n = 1 + r.nextInt(6);
    same(run, x, plain, "sheet", new int[] {0, 16, n});
    for (int i = 0; i < n; i++) {
      int lean = (int) plain.call("leans", i);
      same(run, x, plain, "write", new int[] {0, i, r.nextInt(4) == 0 ? 9999 : r.nextInt(12) == 0 ? lean + 1 : lean});
    }
    int farm = r.nextInt(8);
    same(run, x, plain, "fits", new int[] {0, farm});
    same(run, x, plain, "thinks", new int[] {0, farm});
  }

  private static void sameDays(long run, Random r, SheafVotes x, PlainSheaf plain) throws Exception {
    int n = r.nextInt(6);
    same(run, x, plain, "sheet", new int[] {1, 8, n});
    for (int i = 0; i < n; i++) {
      int days = (int) plain.call("of", i, 6);
      x.of(i, 6);
      same(run, x, plain, "write", new int[] {1, i, r.nextInt(12) == 0 ? days + 1 : days});
    }
    same(run, x, plain, "judge", new int[] {1});
  }

  private static void run(long run) throws Exception {
    Random r = new Random(run);
    SheafVotes x = new SheafVotes();
    PlainSheaf plain = new PlainSheaf();
    int farms = r.nextInt(9);
    for (int i = 0; i < farms; i++) {
      same(run, x, plain, "farm", likely(r, "farm", 2));
      same(run, x, plain, "change", new int[] {i, 3, r.nextInt(19) - 9});
    }
    for (int i = 0; i < CALLS; i++) {
      int sort = r.nextInt(40);
      if (sort == 0) {
        sameText(run, r, x, plain);
      } else if (sort == 1) {
        sameLeans(run, r, x, plain);
      } else if (sort == 2) {
        sameDays(run, r, x, plain);
      } else {
        Method m = FACE[r.nextInt(FACE.length)];
        int arity = m.getParameterCount();
        int[] args = r.nextInt(6) == 0 ? wild(r, arity) : likely(r, m.getName(), arity);
        same(run, x, plain, m.getName(), args);
      }
    }
    for (int which = -1; which < 7; which++) {
      same(run, x, plain, "status", new int[] {which});
    }
  }

  public static void main(String[] args) throws Exception {
    Due.due("methods of the face", FACE.length, 49 - 1);
    int runs = args.length > 0 ? Integer.parseInt(args[0]) : RUNS;
    for (long run = 1; run <= runs; run++) {
      run(run);
    }
    Due.end();
  }
}
