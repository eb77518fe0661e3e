/** Edges of promises 20 to 24. Each answer is also looked up by trying all that there is to try, one by one. */
public final class EdgesHandsTest {
  private static final String[] PARISHES = {
    "farm 40;farm 24", "farm 40;farm 8", "farm 40;farm 9", "farm 8;farm 8", "sly 21;farm 8;lame 16",
    "sly 20;sly 21;sly 22;farm 30", "deep 6;deep 5;old 5 hands 2", "deep 11 hands 1;deep 10;proud 33 hands 2",
    "machine 60;farm 40;farm 0", "machine 61;proud 90;wet 49", "machine 31;old 12;wet 50", "farm 0;farm 0", "farm 5",
    "old 99 hands 20;lame 99 hands 1;wet 99", "sly 27 hands 3;deep 31 hands 6;farm 22 hands 3;wet 20",
    "deep 28 hands 2;sly 38 hands 4;lame 20;machine 90;wet 35"};

  private static boolean isLast(SheafVotes x, int farm) {
    return (x.last() >> farm & 1) == 1;
  }

  private static boolean isFirst(SheafVotes x, int farm) {
    return (x.first() >> farm & 1) == 1;
  }

  private static int most(String text, int farm) {
    for (int hands = 20; hands >= 1; hands--) {
      SheafVotes x = Due.parish(text);
      x.change(farm, 2, hands);
      if (isLast(x, farm)) {
        return hands;
      }
    }
    return Due.NONE;
  }

  private static int fewest(String text, int farm) {
    for (int hands = 1; hands <= 20; hands++) {
      SheafVotes x = Due.parish(text);
      x.change(farm, 2, hands);
      if (isFirst(x, farm)) {
        return hands;
      }
    }
    return Due.NONE;
  }

  private static int lent(String text, int farm) {
    int farms = Due.parish(text).count(1);
    for (int both = 0; both < 64; both++) {
      int from = both / 8;
      int to = both % 8;
      SheafVotes x = Due.parish(text);
      if (from < farms && to < farms && from != to && x.of(from, 2) > 1 && x.of(to, 2) < 20) {
        x.change(from, 2, x.of(from, 2) - 1);
        x.change(to, 2, x.of(to, 2) + 1);
        if (isLast(x, farm)) {
          return both;
        }
      }
    }
    return Due.NONE;
  }

  private static int kindsOf(String text, int farm) {
    int set = 0;
    for (int kind = 0; kind < 7; kind++) {
      SheafVotes x = Due.parish(text);
      x.change(farm, 0, kind);
      set += isLast(x, farm) ? 1 << kind : 0;
    }
    return set;
  }

  private static int leastWet(String text, int farm) {
    SheafVotes x = Due.parish(text);
    for (int wet = 0; wet < 100; wet++) {
      x.weather(0, wet);
      if (isLast(x, farm)) {
        return wet;
      }
    }
    return Due.NONE;
  }

  /** Asked or refused, as is due: in both cases nothing else changes. */
  private static void found(String call, String text, Twins.Act act, int due) {
    if (due < -1000000) {
      Twins.refused(text + ": " + call, Twins.texts(text), act, due);
    } else {
      Twins.asked(text + ": " + call, Twins.texts(text), act, due);
    }
  }

  private static void byTrying() {
    for (String text : PARISHES) {
      for (int i = 0; i < Due.parish(text).count(1); i++) {
        int farm = i;
        Due.sentence(20, "The most HANDS with which a FARM is LAST (perhaps with others). BEYOND. NONE.");
        found("mostHands(" + i + ")", text, x -> x.mostHands(farm), most(text, i));
        Due.sentence(21, "The fewest HANDS with which it is FIRST (perhaps with others). BEYOND. NONE.");
        found("fewestHands(" + i + ")", text, x -> x.fewestHands(farm), fewest(text, i));
        Due.sentence(22, "One FARM (with HANDS above 1) lends one of them to another one (with HANDS below 20): the least of"
            + " 8 times who lends, and to whom, together, after which a told FARM is LAST. BEYOND. NONE.");
        found("lend(" + i + ")", text, x -> x.lend(farm), lent(text, i));
        Due.sentence(23, "KINDS as which a FARM is LAST, as a set. BEYOND.");
        found("kinds(" + i + ")", text, x -> x.kinds(farm), kindsOf(text, i));
        Due.sentence(24, "The least WET (0 to 99) with which it is. BEYOND. NONE.");
        found("wetFor(" + i + ")", text, x -> x.wetFor(farm), leastWet(text, i));
      }
    }
  }

  private static void mostHands() {
    Due.sentence(20, "The most HANDS with which a FARM is LAST (perhaps with others). BEYOND. NONE.");
    Twins.range("mostHands(farm), 4 FARMS", 0, 3, (x, farm) -> x.mostHands(farm));
    Twins.range("mostHands(farm), 8 FARMS", Twins::full, 0, 7, (x, farm) -> x.mostHands(farm));
    Twins.refused("mostHands(0) without FARMS", Twins::empty, x -> x.mostHands(0), Due.BEYOND);
    // Against 5 days: with 1 hand 8, 9, 10, 11 sheaves take 4, 5, 5, 6; with 2 hands 16, 17 take 4, 5.
    int[][] ones = {{8, Due.NONE}, {9, 1}, {10, 1}, {11, 1}, {16, 1}, {17, 2}, {160, 19}, {161, 20}, {200, 20}, {999, 20}};
    for (int[] o : ones) {
      found("mostHands(1)", "farm 40;farm " + o[0], x -> x.mostHands(1), o[1]);
    }
    found("mostHands(0): alone", "farm 0", x -> x.mostHands(0), 20);
    found("mostHands: a MACHINE doesn't mind", "farm 40;machine 150", x -> x.mostHands(1), 20);
    found("mostHands: a MACHINE doesn't mind", "farm 40;machine 120", x -> x.mostHands(1), Due.NONE);
  }

  private static void fewestHands() {
    Due.sentence(21, "The fewest HANDS with which it is FIRST (perhaps with others). BEYOND. NONE.");
    Twins.range("fewestHands(farm), 4 FARMS", 0, 3, (x, farm) -> x.fewestHands(farm));
    Twins.range("fewestHands(farm), 8 FARMS", Twins::full, 0, 7, (x, farm) -> x.fewestHands(farm));
    Twins.refused("fewestHands(0) without FARMS", Twins::empty, x -> x.fewestHands(0), Due.BEYOND);
    // Against 1 day: with 20 hands 40 sheaves take 1, 41 take 2; with 1 hand 2 take 1, 3 take 2.
    int[][] ones = {{0, 1}, {1, 1}, {2, 1}, {3, 2}, {4, 2}, {5, 3}, {38, 19}, {39, 20}, {40, 20}, {41, Due.NONE}, {999, Due.NONE}};
    for (int[] o : ones) {
      found("fewestHands(1)", "farm 8;farm " + o[0], x -> x.fewestHands(1), o[1]);
    }
    found("fewestHands(0): alone", "farm 999", x -> x.fewestHands(0), 1);
    found("fewestHands: against nothing", "farm 0;farm 1", x -> x.fewestHands(1), Due.NONE);
  }

  private static void lend() {
    Due.sentence(22, "One FARM (with HANDS above 1) lends one of them to another one (with HANDS below 20): the least of"
        + " 8 times who lends, and to whom, together, after which a told FARM is LAST. BEYOND. NONE.");
    Twins.range("lend(farm), 4 FARMS", 0, 3, (x, farm) -> x.lend(farm));
    Twins.range("lend(farm), 8 FARMS", Twins::full, 0, 7, (x, farm) -> x.lend(farm));
    Twins.refused("lend(0) without FARMS", Twins::empty, x -> x.lend(0), Due.BEYOND);
    found("lend(0): there is no other one", "farm 40", x -> x.lend(0), Due.NONE);
    // HANDS of both; whether the first, and the second, can be made last.
    int[][] both = {{2, 19, 1, Due.NONE}, {1, 19, 8, Due.NONE}, {2, 20, 8, Due.NONE}, {1, 20, 8, Due.NONE},
      {1, 1, Due.NONE, Due.NONE}, {1, 2, Due.NONE, 8}, {2, 1, 1, Due.NONE}, {2, 2, 1, 8}, {20, 20, Due.NONE, Due.NONE},
      {20, 19, 1, Due.NONE}, {19, 20, Due.NONE, 8}, {19, 19, 1, 8}};
    for (int[] b : both) {
      String text = "farm 40 hands " + b[0] + ";farm 40 hands " + b[1];
      found("lend(0)", text, x -> x.lend(0), b[2]);
      found("lend(1)", text, x -> x.lend(1), b[3]);
    }
    // Who has 20 can't take one; the 8th is last (with the 7th) only if it lends one to the 7th itself.
    Twins.Making eight = x -> {
      for (int i = 0; i < 6; i++) {
        x.farm(5, 0);
        x.change(i, 2, 20);
      }
      x.farm(0, 24);
      x.change(6, 2, 3);
      x.farm(0, 20);
      x.change(7, 2, 5);
    };
    Twins.asked("lend(7): 8th to 7th", eight, x -> x.lend(7), 8 * 7 + 6);
    Twins.asked("lend(6): first to 7th", eight, x -> x.lend(6), 6);
    Twins.Making turned = x -> {
      eight.of(x);
      x.change(6, 1, 20);
      x.change(6, 2, 5);
      x.change(7, 1, 24);
      x.change(7, 2, 3);
    };
    Twins.asked("lend(6): 7th to 8th", turned, x -> x.lend(6), 8 * 6 + 7);
  }

  private static void kinds() {
    Due.sentence(23, "KINDS as which a FARM is LAST, as a set. BEYOND.");
    Twins.range("kinds(farm), 4 FARMS", 0, 3, (x, farm) -> x.kinds(farm));
    Twins.range("kinds(farm), 8 FARMS", Twins::full, 0, 7, (x, farm) -> x.kinds(farm));
    Twins.refused("kinds(0) without FARMS", Twins::empty, x -> x.kinds(0), Due.BEYOND);
    found("kinds(0): alone", "machine 0", x -> x.kinds(0), 127);
    // 100 take 13, 25, 10, 11, 12, 4, 34 days; by 8 sheaves a day the other one takes what it is told to.
    int[][] against = {{4, 127}, {5, 127 - 32}, {10, 127 - 32}, {11, 127 - 32 - 4}, {12, 1 + 2 + 16 + 64}, {13, 1 + 2 + 64},
      {14, 2 + 64}, {25, 2 + 64}, {26, 64}, {34, 64}, {35, 0}};
    for (int[] a : against) {
      found("kinds(0)", "farm 100;farm " + 8 * a[0], x -> x.kinds(0), a[1]);
    }
  }

  private static void wetFor() {
    Due.sentence(24, "The least WET (0 to 99) with which it is. BEYOND. NONE.");
    Twins.range("wetFor(farm), 4 FARMS", 0, 3, (x, farm) -> x.wetFor(farm));
    Twins.range("wetFor(farm), 8 FARMS", Twins::full, 0, 7, (x, farm) -> x.wetFor(farm));
    Twins.refused("wetFor(0) without FARMS", Twins::empty, x -> x.wetFor(0), Due.BEYOND);
    found("wetFor(0): at once", "farm 5;farm 5", x -> x.wetFor(0), 0);
    found("wetFor(1): never", "farm 9;farm 0", x -> x.wetFor(1), Due.NONE);
    found("wetFor(0): at 50", "machine 60;farm 40", x -> x.wetFor(0), 50);
    // An OLD one with 1 hand takes a day for each sheaf; 12 with 5 hands take 4 days at WET 70, 6 at 80, 12 at 90.
    int[][] old = {{4, 70}, {5, 80}, {6, 80}, {7, 90}, {12, 90}, {13, Due.NONE}};
    for (int[] o : old) {
      found("wetFor(0)", "farm 12 hands 5;old " + o[0] + " hands 1", x -> x.wetFor(0), o[1]);
      found("wetFor(0)", "farm 12 hands 5;old " + o[0] + " hands 1;wet 99", x -> x.wetFor(0), o[1]);
    }
    // 12 with 6 hands take 4 days at WET 90 to 99; at 100, which there isn't, they would take 6.
    found("wetFor(0): at 90", "farm 12 hands 6;old 4 hands 1", x -> x.wetFor(0), 90);
    found("wetFor(0): not at 100", "farm 12 hands 6;old 5 hands 1", x -> x.wetFor(0), Due.NONE);
    found("wetFor: whatever WET is now", "machine 60;farm 40;wet 99", x -> x.wetFor(0), 50);
  }

  public static void main(String[] args) {
    byTrying();
    mostHands();
    fewestHands();
    lend();
    kinds();
    wetFor();
    Due.end();
  }
}
