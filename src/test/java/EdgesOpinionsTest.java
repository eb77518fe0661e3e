/** Edges of promises 25 to 31. */
public final class EdgesOpinionsTest {
  private static final String[] PARISHES = {
    "farm 40;proud 8;lame 8;farm 8", "farm 8;farm 8;farm 40", "sly 8 thinks 9;farm 8 thinks 9;farm 40",
    "deep 9 thinks -4;sly 20 thinks 3;machine 90 thinks 9;old 4 thinks -1;mice 25", "farm 9 thinks -9;rain 60",
    "old 9 thinks 9;sly 9 thinks 9;proud 9 thinks -9;mice 99;rain 59", "machine 9 thinks 9", "lame 1 thinks 1;mice 59;rain 99"};

  private static void found(String call, String text, Twins.Act act, int due) {
    if (due < -1000000) {
      Twins.refused(text + ": " + call, Twins.texts(text), act, due);
    } else {
      Twins.asked(text + ": " + call, Twins.texts(text), act, due);
    }
  }

  private static SheafVotes told(String text, int set, int v) {
    SheafVotes x = Due.parish(text);
    for (int farm = 0; farm < x.count(1); farm++) {
      if ((set >> farm & 1) == 1) {
        x.change(farm, 3, v);
      }
    }
    return x;
  }

  /** By trying all sets: those of no farm, then those of one, and so on. */
  private static int fewest(String text, int q, int v) {
    int farms = Due.parish(text).count(1);
    for (int size = 0; size <= farms; size++) {
      for (int set = 0; set < 1 << farms; set++) {
        if (Integer.bitCount(set) == size && told(text, set, v).answer(q) == 1) {
          return set;
        }
      }
    }
    return Due.NONE;
  }

  private static void tell() {
    Due.sentence(25, "The set of fewest FARMS whose OPINION must become v (-9 to 9), so that the ANSWER to a question is 1;"
        + " of several the least. BEYOND. NONE.");
    Twins.range("tell(q, 3)", -99, 99, (x, q) -> x.tell(q, 3));
    Twins.range("tell(0, v)", -9, 9, (x, v) -> x.tell(0, v));
    Twins.range("tell(q, 3) without FARMS", Twins::empty, -99, 99, (x, q) -> x.tell(q, 3));
    Twins.range("tell(0, v) without FARMS", Twins::empty, -9, 9, (x, v) -> x.tell(0, v));
    for (String text : PARISHES) {
      for (int v : new int[] {-9, -8, -1, 0, 1, 8, 9}) {
        for (int q : new int[] {-99, -30, -9, -1, 0, 1, 9, 30, 99}) {
          found("tell(" + q + ", " + v + ")", text, x -> x.tell(q, v), fewest(text, q, v));
        }
      }
    }
    // With 3 it leans by 9 (the one that is LAST), 9, 6 and 3.
    String four = "farm 40;proud 8;lame 8;farm 8";
    int[][] sets = {{0, 0}, {1, 1}, {9, 1}, {10, 3}, {18, 3}, {19, 7}, {24, 7}, {25, 15}, {27, 15}, {28, Due.NONE}};
    for (int[] s : sets) {
      found("tell(" + s[0] + ", 3)", four, x -> x.tell(s[0], 3), s[1]);
    }
    Twins.asked("without FARMS it leans to 0", Twins::empty, x -> x.tell(0, 9), 0);
    Twins.refused("without FARMS it leans to 0", Twins::empty, x -> x.tell(1, 9), Due.NONE);
    String eight = "farm 8;farm 8;farm 8;farm 8;farm 8;farm 8;farm 8;farm 8";
    int[][] ofEight = {{21, 127}, {22, 255}, {24, 255}, {25, Due.NONE}};
    for (int[] s : ofEight) {
      found("tell(" + s[0] + ", 1)", eight, x -> x.tell(s[0], 1), s[1]);
    }
  }

  private static int loudest(String text) {
    int lean = Due.parish(text).lean();
    int best = Due.NONE;
    int most = -1;
    for (int farm = 0; farm < Due.parish(text).count(1); farm++) {
      int otherwise = Math.abs(told(text, 1 << farm, 0).lean() - lean);
      best = otherwise > most ? farm : best;
      most = Math.max(most, otherwise);
    }
    return best;
  }

  private static void voice() {
    Due.sentence(26, "The FARM such that, if its OPINION were 0, LEAN would be otherwise by most (its sign left out).");
    for (String text : PARISHES) {
      found("voice()", text, x -> x.voice(), loudest(text));
    }
    found("both by 6", "machine 40;proud 8 thinks 2;proud 8 thinks 2", x -> x.voice(), 1);
    found("both by 6, one upwards", "machine 40;proud 8 thinks -2;proud 8 thinks 2", x -> x.voice(), 1);
    found("6 and 9", "machine 40;proud 8 thinks -2;proud 8 thinks 3", x -> x.voice(), 2);
    found("9 and 6", "machine 40;proud 8 thinks 3;proud 8 thinks -2", x -> x.voice(), 1);
    found("none counts", "machine 40 thinks 9;farm 8;sly 3", x -> x.voice(), 0);
    found("one FARM", "farm 0", x -> x.voice(), 0);
    // 7 less MICE's 9 is 0 already; without the one below 0 it would be 18 less 9.
    found("MICE take it", "machine 40;farm 8 thinks 9;farm 8 thinks 9;proud 8 thinks -4;mice 99", x -> x.voice(), 3);
    Twins.Making eighth = x -> {
      for (int i = 0; i < 8; i++) {
        x.farm(0, 8);
        x.change(i, 3, i == 7 ? -2 : 1);
      }
    };
    Twins.asked("the 8th", eighth, x -> x.voice(), 7);
    Due.sentence(26, "NONE: there are no FARMS.");
    Twins.refused("no FARMS", Twins::empty, x -> x.voice(), Due.NONE);
    Twins.asked("one", x -> x.farm(5, 0), x -> x.voice(), 0);
  }

  private static int leastMice(String text, int q, int v) {
    for (int mice = 0; mice < 100; mice++) {
      SheafVotes x = Due.parish(text);
      x.weather(1, mice);
      if (x.answer(q) == v) {
        return mice;
      }
    }
    return Due.NONE;
  }

  private static void miceFor() {
    Due.sentence(27, "The least MICE (0 to 99) with which the ANSWER to a question is v (0, 1). BEYOND. NONE.");
    Twins.range("miceFor(q, 0)", -99, 99, (x, q) -> x.miceFor(q, 0));
    Twins.range("miceFor(q, 1) without FARMS", Twins::empty, -99, 99, (x, q) -> x.miceFor(q, 1));
    Twins.range("miceFor(0, v)", 0, 1, (x, v) -> x.miceFor(0, v));
    for (String text : PARISHES) {
      for (int v = 0; v <= 1; v++) {
        int value = v;
        for (int q : new int[] {-99, -30, -9, -1, 0, 1, 9, 30, 99}) {
          found("miceFor(" + q + ", " + v + ")", text, x -> x.miceFor(q, value), leastMice(text, q, v));
        }
      }
    }
    // 15, less 0 to 9.
    int[][] least = {{16, 0, 0}, {15, 0, 10}, {14, 0, 20}, {8, 0, 80}, {7, 0, 90}, {6, 0, Due.NONE}, {15, 1, 0}, {16, 1, Due.NONE}};
    for (int[] l : least) {
      found("miceFor(" + l[0] + ", " + l[1] + ")", "farm 40 thinks 5;mice 55", x -> x.miceFor(l[0], l[1]), l[2]);
    }
    // The same below 0.
    int[][] below = {{-15, 1, 0}, {-14, 1, 10}, {-7, 1, 80}, {-6, 1, 90}, {-5, 1, Due.NONE}, {-15, 0, Due.NONE}, {-14, 0, 0}};
    for (int[] l : below) {
      found("miceFor(" + l[0] + ", " + l[1] + ")", "farm 40 thinks -5", x -> x.miceFor(l[0], l[1]), l[2]);
    }
  }

  private static void turns() {
    Due.sentence(28, "Two cut by turns what is left (1 to 200), each 1 to most (1 to 20) sheaves (no more than there are);"
        + " who cuts the last one has it. 1 if who begins can leave it to the other one, else 0. BEYOND.");
    Twins.range("wins(left, 3)", 1, 200, (x, left) -> x.wins(left, 3));
    Twins.range("wins(10, most)", 1, 20, (x, most) -> x.wins(10, most));
    // Who begins loses with 1 left, and with each whole round of most + 1 more.
    int[][] wins = {{1, 1, 0}, {2, 1, 1}, {3, 1, 0}, {199, 1, 0}, {200, 1, 1}, {1, 20, 0}, {2, 20, 1}, {20, 20, 1}, {21, 20, 1},
      {22, 20, 0}, {23, 20, 1}, {189, 20, 1}, {190, 20, 0}, {191, 20, 1}, {200, 20, 1}, {199, 2, 0}, {200, 2, 1}, {198, 2, 1}};
    for (int[] w : wins) {
      Twins.asked("wins(" + w[0] + ", " + w[1] + ")", Twins::empty, x -> x.wins(w[0], w[1]), w[2]);
    }
    Due.sentence(29, "The least number that it should cut for that. BEYOND. NONE: it can't.");
    Twins.range("cut(left, 3)", 1, 200, (x, left) -> x.cut(left, 3));
    Twins.range("cut(10, most)", 1, 20, (x, most) -> x.cut(10, most));
    int[][] cuts = {{2, 1, 1}, {200, 1, 1}, {2, 20, 1}, {3, 20, 2}, {20, 20, 19}, {21, 20, 20}, {23, 20, 1}, {42, 20, 20},
      {44, 20, 1}, {189, 20, 20}, {191, 20, 1}, {200, 20, 10}, {200, 2, 1}, {198, 2, 2}, {2, 2, 1}, {3, 2, 2}};
    for (int[] c : cuts) {
      Twins.asked("cut(" + c[0] + ", " + c[1] + ")", Twins::empty, x -> x.cut(c[0], c[1]), c[2]);
    }
    int[][] lost = {{1, 1}, {3, 1}, {199, 1}, {1, 20}, {22, 20}, {43, 20}, {190, 20}, {199, 2}, {1, 2}, {4, 2}};
    for (int[] l : lost) {
      Twins.refused("cut(" + l[0] + ", " + l[1] + ")", Twins::empty, x -> x.cut(l[0], l[1]), Due.NONE);
    }
  }

  private static Twins.Making leaning(String text, int bits, int... numbers) {
    return x -> {
      Twins.texts(text).of(x);
      Twins.row(x, 0, bits, numbers);
    };
  }

  private static void fits(String what, Twins.Making making, int farm, int fits, int thinks) {
    Due.sentence(30, "How many OPINIONS (-9 to 9) a FARM could have now, so that LEAN now and behind each YEAR further on is"
        + " as a sheet tells (9999: any).");
    Twins.asked(what + ": fits", making, x -> x.fits(0, farm), fits);
    Due.sentence(31, "The least of them. BEYOND, MISSING, BEYOND likewise. NONE.");
    if (thinks == Due.NONE) {
      Twins.refused(what + ": thinks", making, x -> x.thinks(0, farm), thinks);
    } else {
      Twins.asked(what + ": thinks", making, x -> x.thinks(0, farm), thinks);
    }
  }

  private static void leanings() {
    // The MACHINE is LAST, so the LEAN is just what the other one thinks.
    String plain = "machine 9;farm 0";
    int[][] ends = {{-10, 0, Due.NONE}, {-9, 1, -9}, {-8, 1, -8}, {0, 1, 0}, {8, 1, 8}, {9, 1, 9}, {10, 0, Due.NONE}};
    for (int[] e : ends) {
      fits("LEAN " + e[0], leaning(plain, 8, e[0]), 1, e[1], e[2]);
      fits("LEAN " + e[0], leaning(plain, 16, e[0]), 1, e[1], e[2]);
      fits("LEAN " + e[0], leaning(plain, 32, e[0]), 1, e[1], e[2]);
    }
    fits("a sheet of none", leaning(plain, 8), 1, 19, -9);
    fits("9999", leaning(plain, 16, 9999), 1, 19, -9);
    fits("9999", leaning(plain, 32, 9999), 1, 19, -9);
    fits("9999 in 8 bits is 15", leaning(plain, 8, 9999), 1, 0, Due.NONE);
    fits("9998", leaning(plain, 16, 9998), 1, 0, Due.NONE);
    fits("10000", leaning(plain, 32, 10000), 1, 0, Due.NONE);
    fits("-9999", leaning(plain, 32, -9999), 1, 0, Due.NONE);
    // Behind a YEAR 8 and 9 are both 9, and 0 is still 0.
    fits("9 behind a YEAR", leaning(plain, 16, 9999, 9), 1, 2, 8);
    fits("8 behind a YEAR", leaning(plain, 16, 9999, 8), 1, 1, 7);
    fits("-9 behind a YEAR", leaning(plain, 16, 9999, -9), 1, 2, -9);
    fits("1 behind a YEAR", leaning(plain, 16, 9999, 1), 1, 0, Due.NONE);
    fits("0 behind a YEAR", leaning(plain, 16, 9999, 0), 1, 1, 0);
    fits("8, and 9 behind a YEAR", leaning(plain, 16, 8, 9), 1, 1, 8);
    fits("8, and 8 behind a YEAR", leaning(plain, 16, 8, 8), 1, 0, Due.NONE);
    int[] forty = new int[40];
    java.util.Arrays.fill(forty, 9999);
    fits("40 times any", leaning(plain, 16, forty), 1, 19, -9);
    forty[39] = 9;
    fits("9 behind 39 YEARS", leaning(plain, 32, forty), 1, 9, 1);
    forty[39] = 8;
    fits("8 behind 39 YEARS", leaning(plain, 32, forty), 1, 0, Due.NONE);
    fits("what counts nothing", leaning("machine 9;farm 0 thinks 3", 8, 3, 4), 0, 19, -9);
    fits("what counts nothing", leaning("machine 9;farm 0 thinks 3", 8, 3, 5), 0, 0, Due.NONE);
    fits("whatever it thinks now", leaning("machine 9;farm 0 thinks 3", 8, -2, -3), 1, 1, -2);
  }

  private static void fitsRefused() {
    Due.sentence(30, "BEYOND: no such sheet.");
    Twins.range("fits(s, 0)", 0, 3, (x, s) -> x.fits(s, 0));
    Due.sentence(30, "MISSING.");
    Twins.refused("fits(3, 0)", x -> x.fits(3, 0), Due.MISSING);
    Twins.refused("fits(0, 0), MISSING again", x -> {
      Twins.rich(x);
      x.sheet(0, 0, 0);
    }, x -> x.fits(0, 0), Due.MISSING);
    Twins.asked("fits(3, 0), of none", x -> {
      Twins.rich(x);
      x.sheet(3, 8, 0);
    }, x -> x.fits(3, 0), 19);
    Due.sentence(30, "BEYOND: no such FARM.");
    Twins.range("fits(0, farm), 4 FARMS", 0, 3, (x, farm) -> x.fits(0, farm));
    Twins.range("fits(0, farm), 8 FARMS", Twins::full, 0, 7, (x, farm) -> x.fits(0, farm));
    Twins.refused("fits(3, 4): MISSING is asked first", x -> x.fits(3, 4), Due.MISSING);
    Twins.refused("fits(0, 0) without FARMS", x -> x.sheet(0, 8, 0), x -> x.fits(0, 0), Due.BEYOND);
    Due.sentence(31, "The least of them. BEYOND, MISSING, BEYOND likewise. NONE.");
    Twins.range("thinks(s, 0)", 0, 3, (x, s) -> x.thinks(s, 0));
    Twins.refused("thinks(3, 0)", x -> x.thinks(3, 0), Due.MISSING);
    Twins.range("thinks(0, farm), 4 FARMS", 0, 3, (x, farm) -> x.thinks(0, farm));
    Twins.range("thinks(0, farm), 8 FARMS", Twins::full, 0, 7, (x, farm) -> x.thinks(0, farm));
    Twins.refused("thinks(3, 4): MISSING is asked first", x -> x.thinks(3, 4), Due.MISSING);
    Twins.refused("thinks(0, 0) without FARMS", x -> x.sheet(0, 8, 0), x -> x.thinks(0, 0), Due.BEYOND);
  }

  public static void main(String[] args) {
    tell();
    voice();
    miceFor();
    turns();
    leanings();
    fitsRefused();
    Due.end();
  }
}
