/** Promises 25 to 31: opinions, cutting by turns, what it leaned to. */
public final class OpinionsTest {
  private static void tell() {
    // It tells 3 (last), 3, 2, 1.
    SheafVotes x = Due.parish("farm 40;proud 8;lame 8;farm 8");
    Due.due("tell: it is so already", x.tell(0, 5), 0);
    Due.due("tell: one", x.tell(9, 3), 1);
    Due.due("tell: two", x.tell(10, 3), 3);
    Due.due("tell: three", x.tell(19, 3), 7);
    Due.due("tell: all", x.tell(27, 3), 15);
    Due.due("tell: not even all", x.tell(28, 3), Due.NONE);
    Due.due("tell: 0", x.tell(1, 0), Due.NONE);
    Due.due("tell: below 0", x.tell(1, -9), Due.NONE);
    x.weather(2, 60);
    Due.due("tell: below 0 in the rain", x.tell(1, -1), 1);
    x.weather(1, 30);
    Due.due("tell: with mice", x.tell(1, -1), 3);
    Due.due("nothing changed", x.count(4), 0);
    SheafVotes least = Due.parish("farm 8;proud 8;farm 40");
    Due.due("tell: the least of several", least.tell(9, 3), 2);
    SheafVotes fewest = Due.parish("farm 8;farm 8;farm 40");
    Due.due("tell: fewest ahead of least", fewest.tell(6, 3), 4);
    SheafVotes sly = Due.parish("sly 8 thinks 9;farm 8 thinks 9;farm 40");
    Due.due("tell: a sly one otherwise", sly.tell(9, 0), 1);
    int[][] wrong = {{100, 0}, {-100, 0}, {0, 10}, {0, -10}, {Integer.MIN_VALUE, 0}, {0, Integer.MAX_VALUE}};
    for (int[] w : wrong) {
      Due.due("tell(" + w[0] + ", " + w[1] + ")", x.tell(w[0], w[1]), Due.BEYOND);
    }
    SheafVotes eight = Due.parish("farm 8;farm 8;farm 8;farm 8;farm 8;farm 8;farm 8;farm 8");
    Due.due("tell: 8", eight.tell(24, 1), 255);
    Due.due("tell: 7 of 8", eight.tell(21, 1), 127);
    eight.change(7, 3, -1);
    Due.due("voice: the 8th", eight.voice(), 7);
    Due.due("tell(-99, -9)", x.tell(-99, -9), 0);
    Due.due("tell: no farms", new SheafVotes().tell(1, 9), Due.NONE);
  }

  private static void voice() {
    SheafVotes x = Due.parish("farm 8 thinks 5;proud 8 thinks 2;farm 40 thinks -2");
    Due.due("voice: the least of two", x.voice(), 1);
    x.change(0, 3, 7);
    Due.due("voice: the first", x.voice(), 0);
    x.change(0, 3, 5);
    x.weather(1, 99);
    Due.due("voice: by the lean, mice and all", x.voice(), 2);
    Due.due("nothing changed", x.of(2, 3), -2);
    Due.due("voice: none counts", Due.parish("machine 8 thinks 5;farm 3").voice(), 0);
    Due.due("voice: no farms", new SheafVotes().voice(), Due.NONE);
  }

  private static void miceFor() {
    SheafVotes x = Due.parish("farm 40 thinks 5;mice 50");
    Due.due("miceFor(15, 1)", x.miceFor(15, 1), 0);
    Due.due("miceFor(15, 0)", x.miceFor(15, 0), 10);
    Due.due("miceFor(7, 0)", x.miceFor(7, 0), 90);
    Due.due("miceFor(6, 0)", x.miceFor(6, 0), Due.NONE);
    Due.due("miceFor(16, 1)", x.miceFor(16, 1), Due.NONE);
    x.weather(2, 60);
    Due.due("miceFor(-6, 1) in the rain", x.miceFor(-6, 1), 90);
    Due.due("miceFor(-5, 1) in the rain", x.miceFor(-5, 1), Due.NONE);
    Due.due("nothing changed", x.weather(1, 0), 50);
    int[][] wrong = {{100, 0}, {-100, 1}, {0, 2}, {0, -1}, {Integer.MIN_VALUE, 0}, {0, Integer.MAX_VALUE}};
    for (int[] w : wrong) {
      Due.due("miceFor(" + w[0] + ", " + w[1] + ")", x.miceFor(w[0], w[1]), Due.BEYOND);
    }
  }

  /** All games there are, against the same played out from the end. */
  private static void turns() {
    SheafVotes x = new SheafVotes();
    for (int left = 1; left <= 200; left++) {
      for (int most = 1; most <= 20; most++) {
        int cut = PlainSheaf.move(left, most);
        Due.due("wins(" + left + ", " + most + ")", x.wins(left, most), cut > 0 ? 1 : 0);
        Due.due("cut(" + left + ", " + most + ")", x.cut(left, most), cut > 0 ? cut : Due.NONE);
      }
    }
    Due.due("wins: who must take the last one", x.wins(1, 20), 0);
    Due.due("cut: all but one", x.cut(21, 20), 20);
    Due.due("wins: a round and one", x.wins(22, 20), 0);
    int[][] wrong = {{0, 1}, {201, 1}, {1, 0}, {1, 21}, {-1, -1}, {Integer.MIN_VALUE, 5}, {5, Integer.MIN_VALUE},
      {Integer.MAX_VALUE, Integer.MAX_VALUE}, {5, -1}};
    for (int[] w : wrong) {
      Due.due("wins(" + w[0] + ", " + w[1] + ")", x.wins(w[0], w[1]), Due.BEYOND);
      Due.due("cut(" + w[0] + ", " + w[1] + ")", x.cut(w[0], w[1]), Due.BEYOND);
    }
  }

  private static void sheet(SheafVotes x, int bits, int... numbers) {
    x.sheet(0, bits, numbers.length);
    for (int i = 0; i < numbers.length; i++) {
      x.write(0, i, numbers[i]);
    }
  }

  private static void fits(String what, SheafVotes x, int farm, int fits, int thinks) {
    Due.due(what + ": fits", x.fits(0, farm), fits);
    Due.due(what + ": thinks", x.thinks(0, farm), thinks);
  }

  private static void leaned() {
    SheafVotes x = Due.parish("farm 40 thinks 2;farm 20;farm 8 thinks -1");
    sheet(x, 16, 5, 7, 9, 11, 23);
    fits("as it will be", x, 0, 1, 2);
    fits("as it will be", x, 1, 1, 0);
    fits("as it will be", x, 2, 1, -1);
    sheet(x, 8, 5, 7, 9, 11, 22);
    fits("wrong in the end", x, 0, 0, Due.NONE);
    sheet(x, 32, 9999, 9999, 9999);
    fits("any", x, 1, 19, -9);
    sheet(x, 8, 9999);
    fits("9999 in 8 bits is 15", x, 2, 1, 9);
    sheet(x, 16);
    fits("nothing told", x, 0, 19, -9);
    sheet(x, 8, -28);
    fits("below 0", x, 0, 1, -9);
    sheet(x, 16, 9999, 7);
    fits("the second year alone", x, 2, 1, -1);
    Due.due("nothing changed", x.of(2, 3), -1);
    Due.due("nothing changed", x.now(0), 0);
    SheafVotes machine = Due.parish("machine 40 thinks 2;farm 0 thinks 3");
    sheet(machine, 8, 3, 4, 5);
    fits("a machine", machine, 0, 19, -9);
  }

  /** Behind 8 years of leaning up all of several opinions have come to 9. */
  private static void grown() {
    SheafVotes x = Due.parish("machine 999;farm 0 thinks 9;farm 0 thinks 9");
    int[] told = new int[40];
    java.util.Arrays.fill(told, 9999);
    told[39] = 18;
    sheet(x, 32, told);
    fits("40 numbers", x, 1, 18, -8);
  }

  private static void fitsWrong() {
    SheafVotes x = Due.parish("farm 40");
    x.sheet(0, 8, 1);
    int[] wrong = {-1, 4, Integer.MIN_VALUE, Integer.MAX_VALUE};
    for (int s : wrong) {
      Due.due("fits(" + s + ", 0)", x.fits(s, 0), Due.BEYOND);
      Due.due("thinks(" + s + ", 0)", x.thinks(s, 0), Due.BEYOND);
      Due.due("fits(0, " + s + ")", x.fits(0, s), Due.BEYOND);
      Due.due("thinks(0, " + s + ")", x.thinks(0, s), Due.BEYOND);
      Due.due("fits(1, " + s + "): MISSING ahead of the farm", x.fits(1, s), Due.MISSING);
      Due.due("thinks(1, " + s + "): MISSING ahead of the farm", x.thinks(1, s), Due.MISSING);
    }
    Due.due("fits(0, 1)", x.fits(0, 1), Due.BEYOND);
    Due.due("thinks(0, 1)", x.thinks(0, 1), Due.BEYOND);
  }

  public static void main(String[] args) {
    tell();
    voice();
    miceFor();
    turns();
    leaned();
    grown();
    fitsWrong();
    Due.end();
  }
}
