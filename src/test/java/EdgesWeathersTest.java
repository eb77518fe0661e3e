/** Edges of the draws (the document's Terms, point 2) and of promises 32 to 34. */
public final class EdgesWeathersTest {
  private static int drawn(int z) {
    return (int) (z * 1103515245L + 12345L);
  }

  private static int rest(int z) {
    return (int) ((z & 0xFFFFFFFFL) / 256 % 100);
  }

  private static void draws() {
    Due.sentence(0, "DRAWS: z is told (1 at first); each makes it z * 1103515245 + 12345 (an int), and gives z >>> 8.");
    Due.due("at first", new SheafVotes().count(6), 1);
    SheafVotes first = new SheafVotes();
    first.weathers(1);
    Due.due("z behind two draws", first.count(6), -1770082073);
    Due.due("WET by the first", first.weather(0, 0), 54);
    Due.due("RAIN by the second", first.weather(2, 0), 32);
    int[] seeds = {0, 1, -1, 2, -2, 77, Integer.MIN_VALUE, Integer.MIN_VALUE + 1, Integer.MAX_VALUE - 1, Integer.MAX_VALUE};
    for (int seed : seeds) {
      drawsFrom(seed);
    }
    // What a draw can give at its ends, and where rain and machines mind it.
    for (int what = 0; what < 2; what++) {
      for (int want : new int[] {0, 1, 49, 50, 59, 60, 98, 99}) {
        int seed = 1;
        while (rest(what == 0 ? drawn(seed) : drawn(drawn(seed))) != want) {
          seed++;
        }
        drawsFrom(seed);
      }
    }
  }

  private static void drawsFrom(int seed) {
    SheafVotes x = Due.parish("machine 60 thinks 3;farm 40 thinks 2;mice 7");
    SheafVotes byHand = Due.parish("machine 60 thinks 3;farm 40 thinks 2;mice 7");
    x.seed(seed);
    int one = drawn(seed);
    int two = drawn(one);
    byHand.weather(0, rest(one));
    byHand.weather(2, rest(two));
    Due.due("seed " + seed + ": weathers(1)", x.weathers(1), byHand.go(1));
    Due.due("seed " + seed + ": z", x.count(6), two);
    Due.due("seed " + seed + ": WET", x.weather(0, 0), rest(one));
    Due.due("seed " + seed + ": RAIN", x.weather(2, 0), rest(two));
    Due.due("seed " + seed + ": MICE stay", x.weather(1, 0), 7);
    for (int i = 0; i < 6; i++) {
      Due.due("seed " + seed + ": of(" + i / 3 + ", " + (2 + i % 3) + ")", x.of(i / 3, 2 + i % 3), byHand.of(i / 3, 2 + i % 3));
    }
  }

  private static void weathers() {
    Due.sentence(32, "n times (1 to 20) two draws: WET becomes the first one's rest by 100, RAIN the second one's;"
        + " then a YEAR: LEAN then. BEYOND.");
    Twins.range("weathers(n)", 1, 20, (x, n) -> x.weathers(n));
    Twins.range("weathers(n) without FARMS", Twins::empty, 1, 20, (x, n) -> x.weathers(n));
    for (int n : new int[] {1, 2, 19, 20}) {
      SheafVotes once = Twins.made(Twins::rich);
      SheafVotes byOne = Twins.made(Twins::rich);
      int lean = 0;
      for (int i = 0; i < n; i++) {
        lean = byOne.weathers(1);
      }
      Due.due("weathers(" + n + ")", once.weathers(n), lean);
      Due.due("weathers(" + n + "): LEAN", once.lean(), lean);
      Due.due("weathers(" + n + "): YEAR", once.now(0), 5 + n);
      Due.due("weathers(" + n + "): z", once.count(6), byOne.count(6));
      int z = -78;
      for (int i = 0; i < 2 * n; i++) {
        z = drawn(z);
      }
      Due.due("weathers(" + n + "): two draws each", once.count(6), z);
    }
    Due.sentence(32, "STATE: YEAR would be above 99999.");
    int[][] ends = {{99979, 20}, {99980, 19}, {99997, 2}, {99998, 1}};
    for (int[] e : ends) {
      SheafVotes x = Due.late(e[0]);
      x.weather(0, 7);
      x.weather(2, 8);
      Due.due("YEAR " + e[0] + ": one too many", x.weathers(e[1] + 1), e[1] == 20 ? Due.BEYOND : Due.STATE);
      Due.due("YEAR " + e[0] + ": status(4)", x.status(4), e[1] == 20 ? 0 : 1);
      Due.due("YEAR " + e[0] + ": z stays", x.count(6), 1);
      Due.due("YEAR " + e[0] + ": it stays", x.now(0), e[0]);
      Due.due("YEAR " + e[0] + ": WET stays", x.weather(0, 7), 7);
      Due.due("YEAR " + e[0] + ": RAIN stays", x.weather(2, 8), 8);
      Due.due("YEAR " + e[0] + ": as many as may be", x.weathers(e[1]), 0);
      Due.due("YEAR then", x.now(0), 99999);
      Due.due("weathers(1) then", x.weathers(1), Due.STATE);
    }
    Twins.refused("weathers(1) in YEAR 99999", x -> {
      for (int i = 0; i < 1666; i++) {
        x.go(60);
      }
      x.go(39);
    }, x -> x.weathers(1), Due.STATE);
  }

  private static void odds() {
    Due.sentence(33, "The odds that RAIN is below 60 on all of n (0 to 12) such draws: a fraction in lowest terms:"
        + " above (what 0), below the line (1). BEYOND.");
    Twins.range("odds(n, 0)", 0, 12, (x, n) -> x.odds(n, 0));
    Twins.range("odds(n, 1)", 0, 12, (x, n) -> x.odds(n, 1));
    Twins.range("odds(3, what)", 0, 1, (x, what) -> x.odds(3, what));
    long[][] ends = {{0, 1, 1}, {1, 3, 5}, {2, 9, 25}, {11, 177147, 48828125}, {12, 531441, 244140625}};
    for (long[] e : ends) {
      Twins.asked("odds(" + e[0] + ", 0)", Twins::rich, x -> x.odds((int) e[0], 0), e[1]);
      Twins.asked("odds(" + e[0] + ", 1)", Twins::rich, x -> x.odds((int) e[0], 1), e[2]);
    }
  }

  private static void seed() {
    Due.sentence(34, "z becomes v: what it was.");
    int[] seeds = {0, 1, -1, Integer.MIN_VALUE, Integer.MAX_VALUE, Due.BEYOND + 1, Due.BEYOND, Due.SIZE, Due.SIZE - 1};
    SheafVotes x = new SheafVotes();
    int was = 1;
    for (int seed : seeds) {
      Due.due("seed(" + seed + ")", x.seed(seed), was);
      Due.due("count(6)", x.count(6), seed);
      was = seed;
    }
    Due.due("none was a finding", x.status(-1), 0);
    Twins.asked("seed with what it is", Twins::rich, y -> y.seed(-78), -78);
  }

  public static void main(String[] args) {
    draws();
    weathers();
    odds();
    seed();
    Due.end();
  }
}
