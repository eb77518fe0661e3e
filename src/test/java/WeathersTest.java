/** Promises 32 to 34. */
public final class WeathersTest {
  private static void weathers() {
    SheafVotes x = Due.parish("machine 60 thinks 3;farm 40 thinks 2");
    // WET 54: 60 by 2 is 30 days, 40 by 3 is 14; then, with a hand less, 40 by 1 is 40.
    Due.due("weathers(1)", x.weathers(1), 9);
    Due.due("z", x.count(6), -1770082073);
    Due.due("YEAR", x.now(0), 1);
    Due.due("the machine had it", x.now(3), 1);
    Due.due("HANDS of the farm", x.of(1, 2), 3);
    Due.due("MICE stay", x.weather(1, 0), 0);
    Due.due("WET", x.weather(0, 0), 54);
    Due.due("RAIN", x.weather(2, 0), 32);
    x.weathers(2);
    Due.due("z behind 4 draws more", x.count(6), -1778682749);
    Due.due("WET then", x.weather(0, 0), 87);
    Due.due("RAIN then", x.weather(2, 0), 36);
    Due.due("YEAR then", x.now(0), 3);
  }

  private static void byWeathers() {
    SheafVotes once = Due.parish("sly 90 thinks 3;farm 40 thinks 2;old 30 thinks -4");
    SheafVotes one = Due.parish("sly 90 thinks 3;farm 40 thinks 2;old 30 thinks -4");
    int lean = 0;
    for (int i = 0; i < 20; i++) {
      lean = one.weathers(1);
    }
    Due.due("weathers(20)", once.weathers(20), lean);
    Due.due("z", once.count(6), one.count(6));
    Due.due("YEAR", once.now(0), 20);
    Due.due("weathers: LEAN then", once.lean(), lean);
  }

  private static void wrongOnes() {
    SheafVotes x = Due.parish("farm 5");
    int[] wrong = {0, -1, 21, Integer.MIN_VALUE, Integer.MAX_VALUE};
    for (int n : wrong) {
      Due.due("weathers(" + n + ")", x.weathers(n), Due.BEYOND);
    }
    Due.due("no draw was made", x.count(6), 1);
    Due.due("no year went by", x.now(0), 0);
  }

  private static void odds() {
    SheafVotes x = new SheafVotes();
    long above = 1;
    long below = 1;
    for (int n = 0; n <= 12; n++) {
      Due.due("odds(" + n + ", 0)", x.odds(n, 0), above);
      Due.due("odds(" + n + ", 1)", x.odds(n, 1), below);
      above *= 3;
      below *= 5;
    }
    int[][] wrong = {{13, 0}, {-1, 0}, {0, 2}, {0, -1}, {Integer.MIN_VALUE, 1}, {1, Integer.MAX_VALUE}};
    for (int[] w : wrong) {
      Due.due("odds(" + w[0] + ", " + w[1] + ")", x.odds(w[0], w[1]), Due.BEYOND);
    }
    Due.due("odds are counted, too", x.status(0), wrong.length);
    Due.due("odds draw nothing", x.count(6), 1);
  }

  private static void seed() {
    SheafVotes x = new SheafVotes();
    Due.due("seed(-1)", x.seed(-1), 1);
    x.weathers(1);
    Due.due("WET", x.weather(0, 0), 57);
    Due.due("RAIN", x.weather(2, 0), 28);
    Due.due("seed: what it became", x.seed(Due.BEYOND), 288979989);
    Due.due("seed: a number like a finding", x.seed(0), Due.BEYOND);
    Due.due("and no finding", x.status(-1), 0);
    x.seed(Integer.MIN_VALUE);
    Due.due("count(6)", x.count(6), Integer.MIN_VALUE);
  }

  public static void main(String[] args) {
    weathers();
    byWeathers();
    wrongOnes();
    odds();
    seed();
    Due.end();
  }
}
