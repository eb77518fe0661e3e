/** Edges of promises 1 to 6. */
public final class EdgesFarmsTest {
  private static void newObject() {
    Due.sentence(1, "All as at first; no FARMS; THE TAPE is empty, no image is kept.");
    SheafVotes x = new SheafVotes();
    int[] counts = {0, 0, 0, 0, 0, 0, 1, 0};
    for (int what = 0; what < 8; what++) {
      Due.due("count(" + what + ")", x.count(what), counts[what]);
    }
    for (int what = 0; what < 3; what++) {
      Due.due("weather(" + what + ", 0)", x.weather(what, 0), 0);
    }
    for (int which = -1; which < 7; which++) {
      Due.due("status(" + which + ")", x.status(which), 0);
    }
    Due.due("tear()", x.tear(), 0);
    Due.due("wipe()", x.wipe(), 0);
    Due.due("seed(1)", x.seed(1), 1);
    Due.due("last(), first(), next(), lean()", x.last() | x.first() | x.next() | x.lean(), 0);
    Due.due("of(0, 0)", x.of(0, 0), Due.BEYOND);
    Due.due("undo()", x.undo(), Due.NONE);
    Due.due("text()", x.text(), -1);
    for (int spot = 0; spot < 10; spot++) {
      Due.due("as(" + spot + ", 0)", x.as(spot, 0), Due.MISSING);
    }
    for (int s = 0; s < 4; s++) {
      Due.due("judge(" + s + ")", x.judge(s), Due.MISSING);
    }
    // Nothing of one object is another one's.
    SheafVotes used = Twins.made(Twins::full);
    Due.due("another one's FARMS", used.count(1), 8);
    Twins.asked("a new object beside a used one", Twins::empty, y -> y.count(1), 0);
    Due.due("a new one's bytes", new SheafVotes().count(5), 0);
  }

  private static void weather() {
    Due.sentence(2, "WET (what 0), MICE (1), RAIN (2) becomes v: what it was. BEYOND.");
    Twins.range("weather(what, 5)", 0, 2, (x, what) -> x.weather(what, 5));
    for (int what = 0; what < 3; what++) {
      SheafVotes x = Due.parish("wet 11;mice 22;rain 33");
      Due.due("weather(" + what + ", 99)", x.weather(what, 99), 11 * (what + 1));
      for (int other = 0; other < 3; other++) {
        Due.due("what " + other + " then", x.weather(other, 0), other == what ? 99 : 11 * (other + 1));
      }
      Due.due("no finding", x.status(-1), 0);
    }
    Twins.refused("both are BEYOND, and one is counted", x -> x.weather(3, 100), Due.BEYOND);
  }

  private static void farm() {
    Due.sentence(3, "A new FARM: its number. BEYOND. FULL.");
    Twins.range("farm(kind, 5)", 0, 6, (x, kind) -> x.farm(kind, 5));
    Twins.range("farm(0, field)", 0, 999, (x, field) -> x.farm(0, field));
    for (int have = 0; have <= 8; have++) {
      int farms = have;
      Twins.Making making = x -> {
        for (int i = 0; i < farms; i++) {
          x.farm(2, 3);
        }
      };
      if (have < 8) {
        SheafVotes x = Twins.made(making);
        Due.due("the number of the " + (have + 1) + "th", x.farm(6, 999), have);
        Due.due("FARMS then", x.count(1), have + 1);
        Due.due("its KIND", x.of(have, 0), 6);
        Due.due("its FIELD", x.of(have, 1), 999);
      } else {
        Twins.refused("the 9th", making, x -> x.farm(6, 999), Due.FULL);
      }
    }
    Twins.refused("a 9th with bytes and all", Twins::full, x -> x.farm(0, 0), Due.FULL);
  }

  private static void of() {
    Due.sentence(4, "Of a FARM: what 0 KIND, 1 FIELD, 2 HANDS, 3 OPINION, 4 HAD, 5 REAPS on the first DAY, 6 DAYS, 7 TELLS. BEYOND.");
    Twins.range("of(farm, 0), 4 FARMS", 0, 3, (x, farm) -> x.of(farm, 0));
    Twins.range("of(farm, 6), 8 FARMS", Twins::full, 0, 7, (x, farm) -> x.of(farm, 6));
    Twins.range("of(0, what)", 0, 7, (x, what) -> x.of(0, what));
    Twins.refused("of(0, 0) without FARMS", Twins::empty, x -> x.of(0, 0), Due.BEYOND);
    int[] deep = {4, 21, 4, -9, 2, 11, 7, -1};
    Twins.Making making = x -> {
      Due.read(x, "farm 3;deep 21 thinks -9");
      x.change(1, 4, 2);
    };
    for (int what = 0; what < 8; what++) {
      int w = what;
      Twins.asked("of(1, " + what + ")", making, x -> x.of(1, w), deep[what]);
    }
  }

  private static void change() {
    Due.sentence(5, "KIND (what 0), FIELD (1), HANDS (2), OPINION (3), HAD (4) of a FARM becomes v: what it was. BEYOND.");
    Twins.range("change(farm, 1, 5), 4 FARMS", 0, 3, (x, farm) -> x.change(farm, 1, 5));
    Twins.range("change(farm, 2, 5), 8 FARMS", Twins::full, 0, 7, (x, farm) -> x.change(farm, 2, 5));
    Twins.range("change(0, what, 1)", 0, 4, (x, what) -> x.change(0, what, 1));
    Twins.refused("change(0, 0, 1) without FARMS", Twins::empty, x -> x.change(0, 0, 1), Due.BEYOND);
    int[] least = {0, 0, 1, -9, 0};
    int[] most = {6, 999, 20, 9, 9999};
    int[] was = {3, 6, 7, 8, 0};
    for (int what = 0; what < 5; what++) {
      int w = what;
      Twins.range("change(3, " + what + ", v)", least[what], most[what], (x, v) -> x.change(3, w, v));
      for (int v : new int[] {least[what], most[what]}) {
        SheafVotes x = Due.parish("farm 5;sly 6 hands 7 thinks 8;farm 5");
        Due.due("change(1, " + what + ", " + v + "): what it was", x.change(1, what, v), was[what]);
        for (int other = 0; other < 5; other++) {
          Due.due("of(1, " + other + ") then", x.of(1, other), other == what ? v : was[other]);
        }
        int[] beside = {0, 5, 4, 0, 0};
        for (int other = 0; other < 5; other++) {
          Due.due("of(0, " + other + ") then", x.of(0, other), beside[other]);
          Due.due("of(2, " + other + ") then", x.of(2, other), beside[other]);
        }
      }
    }
    // What is reckoned from it goes with it, though it was asked before.
    SheafVotes x = Due.parish("farm 40");
    Due.due("DAYS", x.of(0, 6), 5);
    x.change(0, 2, 20);
    Due.due("DAYS with 20 HANDS", x.of(0, 6), 1);
    x.change(0, 2, 1);
    Due.due("DAYS with 1", x.of(0, 6), 20);
    x.change(0, 1, 999);
    Due.due("DAYS of 999", x.of(0, 6), 500);
    x.change(0, 0, 5);
    Due.due("DAYS of a MACHINE", x.of(0, 6), 34);
    x.weather(0, 50);
    Due.due("DAYS of it in the wet", x.of(0, 6), 500);
    x.change(0, 1, 0);
    Due.due("DAYS of nothing", x.of(0, 6), 0);
  }

  private static void left() {
    Due.sentence(6, "How many sheaves are left of its FIELD behind n (0 to 999) DAYS of reaping. BEYOND.");
    Twins.range("left(farm, 1), 4 FARMS", 0, 3, (x, farm) -> x.left(farm, 1));
    Twins.range("left(farm, 999), 8 FARMS", Twins::full, 0, 7, (x, farm) -> x.left(farm, 999));
    Twins.range("left(0, n)", 0, 999, (x, n) -> x.left(0, n));
    Twins.refused("left(0, 0) without FARMS", Twins::empty, x -> x.left(0, 0), Due.BEYOND);
    lefts("farm 17", 17, 9, 1, 0, 0);
    lefts("farm 16", 16, 8, 0, 0);
    lefts("farm 15", 15, 7, 0, 0);
    lefts("farm 0", 0, 0);
    lefts("sly 31", 31, 20, 15, 10, 5, 0, 0);
    lefts("sly 32", 32, 21, 10, 5, 0, 0);
    lefts("sly 21", 21, 10, 5, 0, 0);
    lefts("sly 20", 20, 15, 10, 5, 0, 0);
    lefts("deep 11", 11, 6, 1, 0, 0);
    lefts("deep 10", 10, 5, 4, 3, 2, 1, 0, 0);
    lefts("deep 6", 6, 1, 0, 0);
    lefts("deep 5", 5, 4, 3, 2, 1, 0, 0);
    lefts("deep 27", 27, 16, 11, 6, 1, 0, 0);
    lefts("machine 61", 61, 31, 1, 0, 0);
    lefts("wet 50;machine 5", 5, 3, 1, 0, 0);
    int[][] slow = {{0, 999}, {1, 998}, {997, 2}, {998, 1}, {999, 0}};
    for (int[] s : slow) {
      Due.due("one by one: left(0, " + s[0] + ")", Due.parish("farm 999 hands 1;wet 99").left(0, s[0]), s[1]);
    }
  }

  private static void lefts(String text, int... due) {
    for (int n = 0; n < due.length; n++) {
      int days = n;
      Twins.asked(text + ": left(0, " + n + ")", Twins.texts(text), x -> x.left(0, days), due[n]);
    }
    Due.due(text + ": left(0, 999)", Due.parish(text).left(0, 999), 0);
  }

  public static void main(String[] args) {
    newObject();
    weather();
    farm();
    of();
    change();
    left();
    Due.end();
  }
}
