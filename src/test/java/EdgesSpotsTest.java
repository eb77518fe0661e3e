/** Edges of spots and sheets (the document's Terms, point 3) and of promises 38 to 44. */
public final class EdgesSpotsTest {
  private static final int[] BITS = {8, 16, 32};

  private static void hold() {
    Due.sentence(0, "SPOTS 0 to 9 hold a FARM or nothing (at first).");
    for (int spot = 0; spot < 10; spot++) {
      SheafVotes x = Due.parish("farm 1");
      Due.due("at first: as(" + spot + ", 0)", x.as(spot, 0), Due.MISSING);
      x.hold(spot, 0);
      for (int other = 0; other < 10; other++) {
        Due.due("hold(" + spot + ", 0): as(" + other + ", 0)", x.as(other, 0), other == spot ? 0 : Due.MISSING);
      }
    }
    Due.sentence(38, "A SPOT holds a FARM, or nothing (-1): 1. BEYOND.");
    Twins.range("hold(spot, 0)", 0, 9, (x, spot) -> x.hold(spot, 0));
    Twins.range("hold(spot, -1)", 0, 9, (x, spot) -> x.hold(spot, -1));
    Twins.range("hold(2, farm), 4 FARMS", -1, 3, (x, farm) -> x.hold(2, farm));
    Twins.range("hold(2, farm), 8 FARMS", Twins::full, -1, 7, (x, farm) -> x.hold(2, farm));
    Twins.range("hold(0, farm) without FARMS", Twins::empty, -1, -1, (x, farm) -> x.hold(0, farm));
    SheafVotes x = Twins.made(Twins::rich);
    int[] farms = {0, 3, -1, -1, 2};
    int[] held = {3, 3, 2, 2, 3};
    for (int i = 0; i < farms.length; i++) {
      Due.due("hold(2, " + farms[i] + ")", x.hold(2, farms[i]), 1);
      Due.due("as(2, 0)", x.as(2, 0), farms[i] < 0 ? Due.MISSING : farms[i]);
      Due.due("count(7)", x.count(7), held[i]);
    }
    for (int spot = 0; spot < 10; spot++) {
      x.hold(spot, 1);
    }
    Due.due("count(7): all, of one FARM", x.count(7), 10);
  }

  private static void as() {
    Due.sentence(39, "What a SPOT holds as one of a kind (0 to 6): the number of the FARM. BEYOND.");
    Twins.range("as(spot, 0)", 0, 9, (x, spot) -> x.as(spot, 0));
    Twins.range("as(2, kind)", 0, 6, (x, kind) -> x.as(2, kind));
    Twins.range("as(1, kind), of nothing", 0, 6, (x, kind) -> x.as(1, kind));
    Twins.asked("the 8th FARM", x -> {
      Twins.full(x);
      x.hold(5, 7);
    }, x -> x.as(5, 0), 7);
    Due.sentence(39, "MISSING: it holds nothing.");
    Twins.refused("never", x -> x.as(1, 0), Due.MISSING);
    Twins.refused("any more", x -> {
      Twins.rich(x);
      x.hold(2, -1);
    }, x -> x.as(2, 0), Due.MISSING);
    Twins.asked("FARM 0 is not nothing", x -> {
      Twins.rich(x);
      x.hold(1, 0);
    }, x -> x.as(1, 0), 0);
    Due.sentence(39, "KIND: it isn't of that kind, nor of one under it.");
    int[] of = {1, 1 + 2, 1 + 4, 1 + 4 + 8, 1 + 4 + 8 + 16, 1 + 32, 1 + 2 + 64};
    for (int i = 0; i < 49; i++) {
      int own = i / 7;
      int asked = i % 7;
      Twins.Making making = x -> {
        Twins.rich(x);
        x.change(1, 0, own);
      };
      String call = "one of kind " + own + ": as(2, " + asked + ")";
      if ((of[own] >> asked & 1) == 1) {
        Twins.asked(call, making, x -> x.as(2, asked), 1);
      } else {
        Twins.refused(call, making, x -> x.as(2, asked), Due.KIND);
      }
    }
  }

  private static void sheet() {
    Due.sentence(0, "SHEETS 0 to 3: rows of at most 40 numbers of 8, 16 or 32 bits, or MISSING (at first).");
    for (int s = 0; s < 4; s++) {
      for (int bits : BITS) {
        for (int n : new int[] {0, 1, 39, 40}) {
          SheafVotes x = new SheafVotes();
          Due.due("at first: write(" + s + ", 0, 0)", x.write(s, 0, 0), Due.MISSING);
          Due.due("sheet(" + s + ", " + bits + ", " + n + ")", x.sheet(s, bits, n), n);
          Due.due("its last number", x.write(s, n - 1, 1), n == 0 ? Due.BEYOND : 1);
          Due.due("one more", x.write(s, n, 1), Due.BEYOND);
          for (int other = 0; other < 4; other++) {
            Due.due("sheet " + other, x.load(other), other == s ? 0 : Due.MISSING);
          }
        }
      }
    }
    Due.sentence(40, "A sheet has n numbers, all 0, of 8, 16 or 32 bits; bits 0: it is MISSING: n (0 if it is MISSING).");
    for (int bits : BITS) {
      SheafVotes x = Due.parish("farm 0;farm 0;farm 0");
      for (int s = 0; s < 4; s++) {
        Twins.row(x, s, 32, 7, 8, 9);
        Due.due("judge: not all 0", x.judge(s), 1);
        Due.due("sheet: 1", x.sheet(s, bits, 1), 1);
        Due.due("judge: 0", x.judge(s), 0);
        Due.due("sheet: 3", x.sheet(s, bits, 3), 3);
        Due.due("judge: all 0", x.judge(s), 0);
      }
    }
    for (int n : new int[] {0, 1, 39, 40}) {
      SheafVotes x = Twins.made(Twins::rich);
      Due.due("bits 0, n " + n, x.sheet(0, 0, n), 0);
      Due.due("it is MISSING", x.judge(0), Due.MISSING);
      Due.due("another one isn't", x.write(1, 1, 5), 1);
      Twins.asked("bits 0 of one that is MISSING, n " + n, Twins::rich, y -> y.sheet(3, 0, n), 0);
    }
    SheafVotes forty = Due.parish("farm 5");
    forty.sheet(0, 16, 40);
    forty.write(0, 39, 8);
    Due.due("40 again", forty.sheet(0, 16, 40), 40);
    forty.copy(0, 39, 0, 0, 1);
    Due.due("the 40th came", forty.load(0), 1);
    Due.due("the 40th is 0", forty.of(0, 1), 0);
    SheafVotes again = Due.parish("farm 0;farm 0");
    Twins.row(again, 0, 16, 5, 6);
    again.sheet(0, 0, 0);
    again.sheet(0, 16, 2);
    Due.due("all 0, though it was MISSING between", again.judge(0), 0);
  }

  private static void sheetRefused() {
    Due.sentence(40, "BEYOND: no such sheet, other bits.");
    Twins.range("sheet(s, 8, 5)", 0, 3, (x, s) -> x.sheet(s, 8, 5));
    Twins.range("sheet(s, 0, 5)", 0, 3, (x, s) -> x.sheet(s, 0, 5));
    int[] others = {-32, -16, -8, -1, 1, 2, 4, 7, 9, 15, 17, 24, 31, 33, 64, 8 + 256, 32 + 65536, Integer.MIN_VALUE,
      Integer.MAX_VALUE};
    for (int bits : others) {
      Twins.refused("bits " + bits, x -> x.sheet(0, bits, 5), Due.BEYOND);
      Twins.refused("bits " + bits + ", n 0", x -> x.sheet(3, bits, 0), Due.BEYOND);
      Twins.refused("bits " + bits + " ahead of SIZE", x -> x.sheet(0, bits, -1), Due.BEYOND);
    }
    Twins.refused("sheet 4 ahead of SIZE", x -> x.sheet(4, 8, -1), Due.BEYOND);
    Twins.refused("sheet -1 ahead of SIZE", x -> x.sheet(-1, 0, -1), Due.BEYOND);
    int[] allBits = {0, 8, 16, 32};
    for (int bits : allBits) {
      Due.sentence(40, "SIZE: n is below 0 (also with bits 0).");
      for (int n : new int[] {-1, -2, -40, Integer.MIN_VALUE}) {
        Twins.refused("bits " + bits + ", n " + n, x -> x.sheet(1, bits, n), Due.SIZE);
        Twins.refused("bits " + bits + ", n " + n + ", it is MISSING", x -> x.sheet(3, bits, n), Due.SIZE);
      }
      Due.due("bits " + bits + ", n 0", Twins.made(Twins::rich).sheet(1, bits, 0), 0);
      Due.sentence(40, "BEYOND: n is above 40.");
      for (int n : new int[] {41, 42, 256, Integer.MAX_VALUE}) {
        Twins.refused("bits " + bits + ", n " + n, x -> x.sheet(1, bits, n), Due.BEYOND);
        Twins.refused("bits " + bits + ", n " + n + ", it is MISSING", x -> x.sheet(3, bits, n), Due.BEYOND);
      }
      Due.due("bits " + bits + ", n 40", Twins.made(Twins::rich).sheet(1, bits, 40), bits == 0 ? 0 : 40);
    }
  }

  /** What a number has become is told by the LEAN that it fits: drawn opinions can be made to lean so. */
  private static boolean isNumber(int bits, int written, int due) {
    SheafVotes x = Due.parish("machine 9;farm 0");
    x.sheet(0, bits, 1);
    x.write(0, 0, written);
    return x.fits(0, 1) == 1 && x.thinks(0, 1) == due;
  }

  private static int loaded(int bits, int written) {
    SheafVotes x = Due.parish("farm 777");
    x.sheet(0, bits, 1);
    x.write(0, 0, written);
    return x.load(0) == 1 ? x.of(0, 1) : -1;
  }

  private static void write() {
    Due.sentence(41, "Number i of a sheet becomes v (its lowest bits): 1.");
    for (int i = 0; i < BITS.length; i++) {
      for (int v = -9; v <= 9; v++) {
        Due.holds(v + " in " + BITS[i] + " bits", isNumber(BITS[i], v, v));
        if (BITS[i] < 32) {
          int round = 1 << BITS[i];
          Due.holds(v + " and a round in " + BITS[i] + " bits", isNumber(BITS[i], v + round, v));
          Due.holds(v + " less a round in " + BITS[i] + " bits", isNumber(BITS[i], v - round, v));
          Due.holds(v + " with all other bits", isNumber(BITS[i], v & round - 1 | 0x7FFF0000, v));
        } else {
          Due.holds(v + " and 65536 in 32 bits is another number", !isNumber(32, v + 65536, v));
        }
      }
    }
    // bits, written, the FIELD that it is (-1: none).
    int[][] fields = {{8, 0, 0}, {8, 126, 126}, {8, 127, 127}, {8, 128, -1}, {8, 129, -1}, {8, 255, -1}, {8, 256, 0}, {8, 257, 1},
      {8, 999, -1}, {8, 1000, -1}, {8, -1, -1}, {8, -128, -1}, {8, -129, 127}, {8, -256, 0}, {8, Integer.MIN_VALUE, 0},
      {8, Integer.MAX_VALUE, -1}, {16, 255, 255}, {16, 256, 256}, {16, 999, 999}, {16, 1000, -1}, {16, 32767, -1},
      {16, 32768, -1}, {16, 65535, -1}, {16, 65536, 0}, {16, 65537, 1}, {16, 65536 + 999, 999}, {16, 65536 + 1000, -1},
      {16, -1, -1}, {16, -65536, 0}, {16, -64537, 999}, {16, Integer.MIN_VALUE, 0}, {16, Integer.MAX_VALUE, -1},
      {32, 999, 999}, {32, 1000, -1}, {32, 65536, -1}, {32, -1, -1}, {32, Integer.MIN_VALUE, -1}, {32, Integer.MAX_VALUE, -1}};
    for (int[] f : fields) {
      Due.due(f[1] + " in " + f[0] + " bits", loaded(f[0], f[1]), f[2]);
    }
    SheafVotes x = Due.parish("farm 1;farm 1;farm 1");
    Twins.row(x, 2, 16, 4, 5, 6);
    Due.due("write(2, 1, 9)", x.write(2, 1, 9), 1);
    Due.due("load(2)", x.load(2), 3);
    int[] due = {4, 9, 6};
    for (int i = 0; i < 3; i++) {
      Due.due("number " + i, x.of(i, 1), due[i]);
    }
    Due.sentence(41, "BEYOND: no such sheet.");
    Twins.range("write(s, 0, 1)", 0, 3, (y, s) -> y.write(s, 0, 1));
    Due.sentence(41, "MISSING.");
    Twins.refused("at first", y -> y.write(3, 0, 1), Due.MISSING);
    Twins.refused("ahead of the number", y -> y.write(3, 40, 1), Due.MISSING);
    Due.sentence(41, "BEYOND: no such number.");
    int[] lengths = {3, 2, 4};
    for (int s = 0; s < 3; s++) {
      int sheet = s;
      Twins.range("write(" + s + ", i, 1)", 0, lengths[s] - 1, (y, i) -> y.write(sheet, i, 1));
    }
    Twins.range("write(3, i, 1), 40 numbers", y -> {
      Twins.rich(y);
      y.sheet(3, 8, 40);
    }, 0, 39, (y, i) -> y.write(3, i, 1));
    Twins.refused("write to one of none", y -> {
      Twins.rich(y);
      y.sheet(3, 8, 0);
    }, y -> y.write(3, 0, 1), Due.BEYOND);
  }

  /** Sheets 0 and 1 of 16 bits, of 5 and 3 numbers; 2 of 8 bits, 3 is MISSING. */
  private static void rows(SheafVotes x) {
    Due.read(x, "farm 1;farm 1;farm 1;farm 1;farm 1");
    Twins.row(x, 0, 16, 10, 20, 30, 40, 50);
    Twins.row(x, 1, 16, 1, 2, 3);
    Twins.row(x, 2, 8, 4, 5, 6);
  }

  private static void copied(int s, int from, int t, int to, int n, int... due) {
    SheafVotes x = Twins.made(EdgesSpotsTest::rows);
    String call = "copy(" + s + ", " + from + ", " + t + ", " + to + ", " + n + ")";
    Due.due(call, x.copy(s, from, t, to, n), n);
    Due.due(call + ": load(" + t + ")", x.load(t), due.length);
    for (int i = 0; i < due.length; i++) {
      Due.due(call + ": number " + i, x.of(i, 1), due[i]);
    }
    if (s != t) {
      Due.due(call + ": load(" + s + ")", x.load(s), s == 0 ? 5 : 3);
      for (int i = 0; i < (s == 0 ? 5 : 3); i++) {
        Due.due(call + ": it stays " + i, x.of(i, 1), s == 0 ? 10 + 10 * i : 1 + i);
      }
    }
  }

  private static void copy() {
    Due.sentence(42, "n numbers of a sheet from one on come to another one from one on (as they all were): n.");
    copied(0, 0, 1, 0, 3, 10, 20, 30);
    copied(0, 2, 1, 0, 3, 30, 40, 50);
    copied(0, 4, 1, 2, 1, 1, 2, 50);
    copied(0, 0, 1, 0, 0, 1, 2, 3);
    copied(0, 5, 1, 3, 0, 1, 2, 3);
    copied(1, 0, 0, 2, 3, 10, 20, 1, 2, 3);
    copied(1, 0, 0, 0, 3, 1, 2, 3, 40, 50);
    copied(0, 0, 0, 1, 4, 10, 10, 20, 30, 40);
    copied(0, 1, 0, 0, 4, 20, 30, 40, 50, 50);
    copied(0, 0, 0, 0, 5, 10, 20, 30, 40, 50);
    copied(0, 0, 0, 2, 3, 10, 20, 10, 20, 30);
    copied(0, 2, 0, 0, 3, 30, 40, 50, 40, 50);
    Due.due("40 numbers", fortyCopied(), 40);
    Due.sentence(42, "BEYOND: no such sheet (either).");
    Twins.range("copy(s, 0, 0, 0, 0)", 0, 3, (x, s) -> x.copy(s, 0, 0, 0, 0));
    Twins.range("copy(0, 0, t, 0, 0)", 0, 3, (x, t) -> x.copy(0, 0, t, 0, 0));
    Twins.range("copy(3, 0, t, 0, 0) ahead of MISSING", 0, 3, (x, t) -> x.copy(3, 0, t, 0, 0));
    Due.sentence(42, "MISSING: one is.");
    Twins.refused("the first", EdgesSpotsTest::rows, x -> x.copy(3, 0, 0, 0, 1), Due.MISSING);
    Twins.refused("the other one", EdgesSpotsTest::rows, x -> x.copy(0, 0, 3, 0, 1), Due.MISSING);
    Twins.refused("both", EdgesSpotsTest::rows, x -> x.copy(3, 0, 3, 0, 1), Due.MISSING);
    Twins.refused("with n 0, too", EdgesSpotsTest::rows, x -> x.copy(0, 0, 3, 0, 0), Due.MISSING);
    Twins.refused("ahead of the places", EdgesSpotsTest::rows, x -> x.copy(3, -1, 0, 9, -1), Due.MISSING);
    Due.sentence(42, "KIND: they are not of as many bits.");
    for (int i = 0; i < 9; i++) {
      int bits = BITS[i / 3];
      int others = BITS[i % 3];
      Twins.Making making = x -> {
        Twins.row(x, 0, bits, 1, 2);
        Twins.row(x, 1, others, 3, 4);
      };
      if (bits == others) {
        Due.due(bits + " bits and " + others, Twins.made(making).copy(0, 0, 1, 0, 2), 2);
      } else {
        Twins.refused(bits + " bits and " + others, making, x -> x.copy(0, 0, 1, 0, 2), Due.KIND);
        Twins.refused(bits + " bits and " + others + ", n 0", making, x -> x.copy(0, 0, 1, 0, 0), Due.KIND);
        Twins.refused(bits + " bits and " + others + " ahead of the places", making, x -> x.copy(0, 3, 1, -1, 1), Due.KIND);
      }
    }
  }

  private static int fortyCopied() {
    SheafVotes x = Due.parish("farm 0");
    x.sheet(0, 32, 40);
    x.sheet(1, 32, 40);
    x.write(0, 39, 5);
    int n = x.copy(0, 0, 1, 0, 40);
    x.copy(1, 39, 1, 0, 1);
    return x.load(1) == 1 && x.of(0, 1) == 5 ? n : -1;
  }

  private static void copyBeyond() {
    Due.sentence(42, "BEYOND: one has not so many, or from, to or n is below 0.");
    int[][] beyond = {{0, 0, 1, 0, 4}, {0, 3, 1, 0, 3}, {0, 4, 1, 0, 2}, {0, 5, 1, 0, 1}, {0, 6, 1, 0, 0}, {0, 0, 1, 1, 3},
      {0, 0, 1, 2, 2}, {0, 0, 1, 3, 1}, {0, 0, 1, 4, 0}, {1, 0, 0, 0, 4}, {1, 0, 0, 3, 3}, {1, 1, 0, 0, 3}, {0, 0, 0, 1, 5},
      {0, 1, 0, 0, 5}, {0, 0, 0, 0, 6}, {0, -1, 1, 0, 1}, {0, -1, 1, 0, 0}, {0, 0, 1, -1, 1}, {0, 0, 1, -1, 0}, {0, 0, 1, 0, -1},
      {0, 1, 1, 1, -1}, {0, 5, 1, 3, -1}, {0, 1, 1, 0, -1}};
    for (int[] b : beyond) {
      Twins.refused("copy" + java.util.Arrays.toString(b), EdgesSpotsTest::rows,
          x -> x.copy(b[0], b[1], b[2], b[3], b[4]), Due.BEYOND);
    }
    // Sums of these wrap around.
    int[] far = {Integer.MIN_VALUE, Integer.MIN_VALUE + 1, -40, 40, 1 << 30, Integer.MAX_VALUE - 1, Integer.MAX_VALUE};
    for (int f : far) {
      Twins.refused("from " + f, EdgesSpotsTest::rows, x -> x.copy(0, f, 1, 0, 1), Due.BEYOND);
      Twins.refused("to " + f, EdgesSpotsTest::rows, x -> x.copy(0, 0, 1, f, 1), Due.BEYOND);
      Twins.refused("n " + f, EdgesSpotsTest::rows, x -> x.copy(0, 1, 1, 1, f), Due.BEYOND);
      for (int g : far) {
        Twins.refused("from, to " + f + ", n " + g, EdgesSpotsTest::rows, x -> x.copy(0, f, 1, f, g), Due.BEYOND);
        Twins.refused("from " + f + ", to " + g, EdgesSpotsTest::rows, x -> x.copy(0, f, 0, g, 0), Due.BEYOND);
      }
    }
  }

  private static void load() {
    Due.sentence(43, "Numbers of a sheet, from its begin on, become FIELDS of FARMS 0, 1, ..: how many came.");
    loads("all", 3, new int[] {1, 2, 3}, 3);
    loads("fewer numbers", 3, new int[] {1, 2}, 2);
    loads("of none", 3, new int[0], 0);
    loads("8", 8, new int[] {8, 7, 6, 5, 4, 3, 2, 1}, 8);
    Due.sentence(43, "It ends at the first that isn't 0 to 999, or for which there is no FARM.");
    for (int end : new int[] {-1, 1000, 9999, Integer.MIN_VALUE, Integer.MAX_VALUE}) {
      loads("the first is " + end, 3, new int[] {end, 2, 3}, 0);
      loads("the second is " + end, 3, new int[] {1, end, 3}, 1);
      loads("the third is " + end, 3, new int[] {1, 2, end}, 2);
      loads("the fourth is " + end, 3, new int[] {1, 2, 3, end}, 3);
    }
    loads("0 and 999", 3, new int[] {0, 999, 1}, 3);
    loads("1 and 998", 3, new int[] {1, 998, 0}, 3);
    loads("one more", 3, new int[] {1, 2, 3, 4}, 3);
    loads("no FARMS", 0, new int[] {1, 2}, 0);
    loads("a 9th", 8, new int[] {1, 2, 3, 4, 5, 6, 7, 8, 9}, 8);
    loads("40", 8, new int[40], 8);
    // DAYS go with the FIELDS, though they were asked before.
    SheafVotes x = Due.parish("farm 8");
    Due.due("DAYS", x.of(0, 6), 1);
    Twins.row(x, 0, 8, 9);
    x.load(0);
    Due.due("DAYS then", x.of(0, 6), 2);
    Due.sentence(43, "BEYOND: no such sheet.");
    Twins.range("load(s)", 0, 3, (y, s) -> y.load(s));
    Due.sentence(43, "MISSING.");
    Twins.refused("load(3)", y -> y.load(3), Due.MISSING);
    Twins.refused("load(0), MISSING again", y -> {
      Twins.rich(y);
      y.sheet(0, 0, 3);
    }, y -> y.load(0), Due.MISSING);
  }

  private static void loads(String what, int farms, int[] numbers, int due) {
    SheafVotes x = new SheafVotes();
    for (int i = 0; i < farms; i++) {
      x.farm(0, 500 + i);
      x.change(i, 3, 1);
    }
    Twins.row(x, 0, 32, numbers);
    Due.due(what + ": load(0)", x.load(0), due);
    for (int i = 0; i < farms; i++) {
      Due.due(what + ": FIELD of " + i, x.of(i, 1), i < due ? numbers[i] : 500 + i);
      Due.due(what + ": OPINION of " + i, x.of(i, 3), 1);
    }
    Due.due(what + ": no finding", x.status(-1), 0);
    Due.due(what + ": FARMS", x.count(1), farms);
  }

  private static void judged(String text, int due, int bits, int... numbers) {
    Twins.asked(text + " and " + java.util.Arrays.toString(numbers), x -> {
      Twins.texts(text).of(x);
      Twins.row(x, 0, bits, numbers);
    }, x -> x.judge(0), due);
  }

  private static void judge() {
    Due.sentence(44, "THE READER: numbers of a sheet are DAYS of FARMS 0, 1, ..: 0 if so; else 1 and the place of the first"
        + " that isn't so.");
    String three = "farm 40;farm 20;farm 0";
    judged(three, 0, 8, 5, 3, 0);
    judged(three, 0, 8, 5, 3);
    judged(three, 0, 8, 5);
    judged(three, 0, 8);
    judged(three, 1, 8, 4, 3, 0);
    judged(three, 1, 8, 6, 3, 0);
    judged(three, 2, 8, 5, 2, 0);
    judged(three, 2, 8, 5, 4, 0);
    judged(three, 3, 8, 5, 3, -1);
    judged(three, 3, 8, 5, 3, 1);
    judged(three, 1, 8, 4, 4, 4);
    judged(three, 4, 8, 5, 3, 0, 0);
    judged(three, 4, 8, 5, 3, 0, 7, 7);
    judged("wet 1", 1, 8, 0);
    judged("wet 1", 0, 8);
    // 999 DAYS don't go into 8 bits: their lowest 8 bits are another number.
    judged("farm 999 hands 1;wet 99", 0, 16, 999);
    judged("farm 999 hands 1;wet 99", 1, 8, 999);
    judged("farm 999 hands 1;wet 99", 1, 32, 998);
    judged("farm 127 hands 1;wet 99", 0, 8, 127);
    Due.due("8, and a 9th", eightJudged(), 9);
    Due.sentence(44, "BEYOND: no such sheet.");
    Twins.range("judge(s)", 0, 3, (x, s) -> x.judge(s));
    Due.sentence(44, "MISSING.");
    Twins.refused("judge(3)", x -> x.judge(3), Due.MISSING);
    Twins.refused("judge(0), MISSING again", x -> {
      Twins.rich(x);
      x.sheet(0, 0, 3);
    }, x -> x.judge(0), Due.MISSING);
  }

  private static int eightJudged() {
    SheafVotes x = Due.parish("farm 0;farm 0;farm 0;farm 0;farm 0;farm 0;farm 0;farm 0");
    x.sheet(0, 32, 8);
    Due.due("8 as they are", x.judge(0), 0);
    x.sheet(0, 32, 40);
    return x.judge(0);
  }

  public static void main(String[] args) {
    hold();
    as();
    sheet();
    sheetRefused();
    write();
    copy();
    copyBeyond();
    load();
    judge();
    Due.end();
  }
}
