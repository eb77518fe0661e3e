/** Promises 38 to 44. */
public final class SpotsSheetsTest {
  private static final int[] FAR = {-1, 4, Integer.MIN_VALUE, Integer.MAX_VALUE};

  private static void spots() {
    SheafVotes x = Due.parish("farm 1;lame 1;proud 1;sly 1;deep 1;machine 1;old 1");
    // Of which kinds each kind is, as a set.
    int[] of = {1, 1 + 2, 1 + 4, 1 + 4 + 8, 1 + 4 + 8 + 16, 1 + 32, 1 + 2 + 64};
    for (int i = 0; i < 7; i++) {
      Due.due("hold(" + i + ", " + i + ")", x.hold(i, i), 1);
      for (int kind = 0; kind < 7; kind++) {
        Due.due("as(" + i + ", " + kind + ")", x.as(i, kind), (of[i] >> kind & 1) == 1 ? i : Due.KIND);
      }
    }
    Due.due("count(7)", x.count(7), 7);
    Due.due("hold(9, 4)", x.hold(9, 4), 1);
    Due.due("as(9, 3)", x.as(9, 3), 4);
    x.change(4, 0, 6);
    Due.due("as: the kind it has now", x.as(9, 3), Due.KIND);
    Due.due("as: the kind it has now", x.as(9, 1), 4);
    Due.due("hold(9, -1)", x.hold(9, -1), 1);
    Due.due("as: nothing", x.as(9, 0), Due.MISSING);
    Due.due("as(8, 0)", x.as(8, 0), Due.MISSING);
    Due.due("as: BEYOND ahead of MISSING", x.as(8, 7), Due.BEYOND);
    Due.due("as(8, -1)", x.as(8, -1), Due.BEYOND);
    Due.due("as(10, 0)", x.as(10, 0), Due.BEYOND);
    Due.due("as(-1, 0)", x.as(-1, 0), Due.BEYOND);
    Due.due("hold(10, 0)", x.hold(10, 0), Due.BEYOND);
    Due.due("hold(-1, 0)", x.hold(-1, 0), Due.BEYOND);
    Due.due("hold(0, 7)", x.hold(0, 7), Due.BEYOND);
    Due.due("hold(0, -2)", x.hold(0, -2), Due.BEYOND);
    for (int far : new int[] {Integer.MIN_VALUE, Integer.MAX_VALUE}) {
      Due.due("hold: far", x.hold(far, 0), Due.BEYOND);
      Due.due("hold: far farm", x.hold(0, far), Due.BEYOND);
      Due.due("as: far", x.as(far, far), Due.BEYOND);
    }
    Due.due("hold: it holds what it held", x.as(0, 0), 0);
    Due.due("count(7)", x.count(7), 7);
  }

  private static void sheet() {
    SheafVotes x = Due.parish("farm 1");
    for (int s = 0; s < 4; s++) {
      Due.due("sheet: 40", x.sheet(s, 8 << s % 3, 40), 40);
      Due.due("write: the last", x.write(s, 39, 1), 1);
      Due.due("write: one more", x.write(s, 40, 1), Due.BEYOND);
    }
    Due.due("sheet: 0", x.sheet(0, 16, 0), 0);
    Due.due("an empty sheet is not MISSING", x.judge(0), 0);
    Due.due("write: an empty sheet", x.write(0, 0, 1), Due.BEYOND);
    Due.due("sheet: MISSING", x.sheet(0, 0, 5), 0);
    Due.due("write: MISSING", x.write(0, 0, 1), Due.MISSING);
    Due.due("sheet: n -1", x.sheet(1, 8, -1), Due.SIZE);
    Due.due("sheet: n -1, bits 0", x.sheet(1, 0, -1), Due.SIZE);
    Due.due("sheet: n 41", x.sheet(1, 8, 41), Due.BEYOND);
    Due.due("sheet: n 41, bits 0", x.sheet(1, 0, 41), Due.BEYOND);
    int[] bits = {-8, 1, 7, 9, 15, 24, 31, 33, 64, Integer.MIN_VALUE, Integer.MAX_VALUE};
    for (int b : bits) {
      Due.due("sheet: bits " + b + " ahead of SIZE", x.sheet(1, b, -1), Due.BEYOND);
    }
    for (int s : FAR) {
      Due.due("sheet " + s + " ahead of SIZE", x.sheet(s, 8, -1), Due.BEYOND);
      Due.due("write: sheet " + s, x.write(s, 0, 0), Due.BEYOND);
    }
    Due.due("sheet: least n", x.sheet(1, 8, Integer.MIN_VALUE), Due.SIZE);
    Due.due("sheet: most n", x.sheet(1, 8, Integer.MAX_VALUE), Due.BEYOND);
    Due.due("sheet 1 is what it was", x.write(1, 39, 0), 1);
    Due.due("write: -1", x.write(1, -1, 0), Due.BEYOND);
    Due.due("write: far", x.write(1, Integer.MIN_VALUE, 0), Due.BEYOND);
    Due.due("write: far", x.write(1, Integer.MAX_VALUE, 0), Due.BEYOND);
    Due.due("write: MISSING ahead of the number", x.write(0, -1, 0), Due.MISSING);
  }

  /** What a sheet has can be told by judge(): the place of the first number that isn't the days. */
  private static void allZero() {
    SheafVotes x = Due.parish("farm 0;farm 0;farm 0");
    x.sheet(0, 32, 3);
    x.write(0, 1, 5);
    Due.due("judge: 5", x.judge(0), 2);
    x.sheet(0, 32, 3);
    Due.due("sheet: all 0 again", x.judge(0), 0);
    x.write(0, 0, 6);
    x.write(0, 2, 7);
    x.sheet(0, 16, 1);
    x.sheet(0, 8, 3);
    Due.due("sheet: all 0 after a shorter one", x.judge(0), 0);
  }

  private static void bits() {
    SheafVotes x = Due.parish("farm 0");
    int[][] cut = {{8, 256 + 7, 7}, {8, 127, 127}, {16, 65536 + 200, 200}, {16, 999, 999}, {32, 999, 999}};
    for (int[] c : cut) {
      x.sheet(0, c[0], 1);
      x.write(0, 0, c[1]);
      Due.due("load: one", x.load(0), 1);
      Due.due("lowest " + c[0] + " bits of " + c[1], x.of(0, 1), c[2]);
    }
    int[][] below = {{8, 128}, {8, 200}, {8, -1}, {16, 32768}, {16, 1000}, {32, 65536 + 7}, {32, -1}, {32, 1000}};
    for (int[] b : below) {
      x.sheet(0, b[0], 1);
      x.write(0, 0, b[1]);
      Due.due("load: " + b[1] + " in " + b[0] + " bits is no FIELD", x.load(0), 0);
    }
    Due.due("FIELD is what it was", x.of(0, 1), 999);
  }

  private static void row(SheafVotes x, int s, int bits, int... numbers) {
    x.sheet(s, bits, numbers.length);
    for (int i = 0; i < numbers.length; i++) {
      x.write(s, i, numbers[i]);
    }
  }

  private static void fields(String what, SheafVotes x, int s, int... want) {
    Due.due(what + ": load", x.load(s), want.length);
    for (int i = 0; i < want.length; i++) {
      Due.due(what + ": FIELD " + i, x.of(i, 1), want[i]);
    }
  }

  private static void copy() {
    SheafVotes x = Due.parish("farm 1;farm 1;farm 1;farm 1;farm 1");
    row(x, 0, 16, 10, 20, 30, 40, 50);
    row(x, 1, 16, 1, 2, 3);
    Due.due("copy: two", x.copy(0, 3, 1, 1, 2), 2);
    fields("copy", x, 1, 1, 40, 50);
    Due.due("copy: up onto itself", x.copy(0, 0, 0, 1, 4), 4);
    fields("copy up", x, 0, 10, 10, 20, 30, 40);
    Due.due("copy: down onto itself", x.copy(0, 1, 0, 0, 4), 4);
    fields("copy down", x, 0, 10, 20, 30, 40, 40);
    Due.due("copy: none, at the end", x.copy(0, 5, 1, 3, 0), 0);
    Due.due("copy: none, behind the end", x.copy(0, 6, 1, 0, 0), Due.BEYOND);
    Due.due("copy: none, behind the end", x.copy(0, 0, 1, 4, 0), Due.BEYOND);
    Due.due("copy: the first has not so many", x.copy(0, 4, 1, 0, 2), Due.BEYOND);
    Due.due("copy: the other one has not so many", x.copy(0, 0, 1, 2, 2), Due.BEYOND);
    Due.due("copy: from -1", x.copy(0, -1, 1, 0, 1), Due.BEYOND);
    Due.due("copy: to -1", x.copy(0, 0, 1, -1, 1), Due.BEYOND);
    Due.due("copy: n -1", x.copy(0, 0, 1, 0, -1), Due.BEYOND);
    Due.due("copy: far", x.copy(0, Integer.MAX_VALUE, 1, Integer.MAX_VALUE, Integer.MAX_VALUE), Due.BEYOND);
    Due.due("copy: far n", x.copy(0, 1, 1, 1, Integer.MAX_VALUE), Due.BEYOND);
    Due.due("copy: far from", x.copy(0, Integer.MIN_VALUE, 1, 0, 1), Due.BEYOND);
    fields("nothing changed", x, 1, 1, 40, 50);
    x.sheet(2, 8, 5);
    Due.due("copy: other bits, ahead of the places", x.copy(0, -1, 2, 0, 1), Due.KIND);
    Due.due("copy: MISSING", x.copy(0, 0, 3, 0, 1), Due.MISSING);
    Due.due("copy: MISSING ahead of the places", x.copy(3, -1, 0, 0, 1), Due.MISSING);
    for (int s : FAR) {
      Due.due("copy: from sheet " + s, x.copy(s, 0, 3, 0, 1), Due.BEYOND);
      Due.due("copy: to sheet " + s + " ahead of MISSING", x.copy(3, 0, s, 0, 1), Due.BEYOND);
    }
  }

  private static void load() {
    SheafVotes x = Due.parish("farm 1;farm 2;farm 3");
    row(x, 0, 16, 0, 999, 1000, 5);
    Due.due("load: two", x.load(0), 2);
    Due.due("FIELD 0", x.of(0, 1), 0);
    Due.due("FIELD 1", x.of(1, 1), 999);
    Due.due("FIELD 2", x.of(2, 1), 3);
    Due.due("DAYS go with it", x.of(1, 6), 125);
    row(x, 0, 8, 4, 5, 6, 7, 8);
    Due.due("load: as many as there are farms", x.load(0), 3);
    Due.due("FIELD 2", x.of(2, 1), 6);
    row(x, 0, 32, -1, 5);
    Due.due("load: none", x.load(0), 0);
    Due.due("load: no farms", loadWithout(), 0);
    Due.due("load: MISSING", x.load(1), Due.MISSING);
    Due.due("judge: MISSING", x.judge(1), Due.MISSING);
    for (int s : FAR) {
      Due.due("load(" + s + ")", x.load(s), Due.BEYOND);
      Due.due("judge(" + s + ")", x.judge(s), Due.BEYOND);
    }
  }

  private static int loadWithout() {
    SheafVotes x = new SheafVotes();
    x.sheet(0, 8, 3);
    return x.load(0);
  }

  private static void judge() {
    SheafVotes x = Due.parish("farm 40;farm 20;farm 0");
    row(x, 0, 8, 5, 3, 0);
    Due.due("judge: so", x.judge(0), 0);
    row(x, 0, 8, 5, 3);
    Due.due("judge: so, of some", x.judge(0), 0);
    row(x, 0, 8, 5, 3, 0, 0);
    Due.due("judge: there is no such farm", x.judge(0), 4);
    row(x, 0, 8, 4, 3, 1);
    Due.due("judge: the first of two", x.judge(0), 1);
    row(x, 0, 8, 5, 3, 1);
    Due.due("judge: the last", x.judge(0), 3);
    x.weather(0, 40);
    row(x, 0, 32, 10, 5, 0);
    Due.due("judge: in the wet", x.judge(0), 0);
    Due.due("judge finds nothing", x.status(-1), 0);
  }

  public static void main(String[] args) {
    spots();
    sheet();
    allZero();
    bits();
    copy();
    load();
    judge();
    Due.end();
  }
}
