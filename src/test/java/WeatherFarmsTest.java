/** Promises 1 to 6. */
public final class WeatherFarmsTest {
  private static final int[] EXTREMES = {Integer.MIN_VALUE, Integer.MAX_VALUE};

  private static void newObject() {
    SheafVotes x = new SheafVotes();
    int[] counts = {0, 0, 0, 0, 0, 0, 1, 0};
    for (int what = 0; what < counts.length; what++) {
      Due.due("new: count(" + what + ")", x.count(what), counts[what]);
    }
    for (int what = 0; what < 6; what++) {
      Due.due("new: now(" + what + ")", x.now(what), 0);
    }
    for (int what = 0; what < 3; what++) {
      Due.due("new: weather(" + what + ", 7)", x.weather(what, 7), 0);
    }
    Due.due("new: last()", x.last(), 0);
    Due.due("new: first()", x.first(), 0);
    Due.due("new: wipe()", x.wipe(), 0);
    Due.due("new: tear()", x.tear(), 0);
    for (int which = -1; which < 7; which++) {
      Due.due("new: status(" + which + ")", x.status(which), 0);
    }
    Due.due("new: undo()", x.undo(), Due.NONE);
    for (int spot = 0; spot < 10; spot++) {
      Due.due("new: as(" + spot + ", 0)", x.as(spot, 0), Due.MISSING);
    }
    for (int s = 0; s < 4; s++) {
      Due.due("new: load(" + s + ")", x.load(s), Due.MISSING);
    }
  }

  private static void weather() {
    SheafVotes x = new SheafVotes();
    for (int what = 0; what < 3; what++) {
      Due.due("weather: 99", x.weather(what, 99), 0);
      Due.due("weather: back", x.weather(what, 30 + what), 99);
    }
    Due.due("weather: v 100", x.weather(0, 100), Due.BEYOND);
    Due.due("weather: v -1", x.weather(1, -1), Due.BEYOND);
    Due.due("weather: what 3", x.weather(3, 0), Due.BEYOND);
    Due.due("weather: what -1", x.weather(-1, 0), Due.BEYOND);
    for (int far : EXTREMES) {
      Due.due("weather: far what", x.weather(far, 0), Due.BEYOND);
      Due.due("weather: far v", x.weather(2, far), Due.BEYOND);
    }
    for (int what = 0; what < 3; what++) {
      Due.due("weather: kept, each its own", x.weather(what, 0), 30 + what);
    }
  }

  private static void farm() {
    SheafVotes x = new SheafVotes();
    Due.due("farm: kind 7", x.farm(7, 0), Due.BEYOND);
    Due.due("farm: kind -1", x.farm(-1, 0), Due.BEYOND);
    Due.due("farm: field 1000", x.farm(0, 1000), Due.BEYOND);
    Due.due("farm: field -1", x.farm(0, -1), Due.BEYOND);
    Due.due("farm: none came", x.count(1), 0);
    for (int i = 0; i < 8; i++) {
      Due.due("farm: number", x.farm(Math.min(6, i), i == 7 ? 999 : i), i);
      int[] first = {Math.min(6, i), i == 7 ? 999 : i, 4, 0, 0};
      for (int what = 0; what < 5; what++) {
        Due.due("farm: of " + what, x.of(i, what), first[what]);
      }
    }
    Due.due("farm: the 9th", x.farm(0, 0), Due.FULL);
    Due.due("farm: BEYOND ahead of FULL", x.farm(0, 1000), Due.BEYOND);
    Due.due("farm: still 8", x.count(1), 8);
  }

  private static void reapsDaysTells() {
    int[] reaps = {8, 4, 11, 11, 11, 30, 3};
    int[] days = {13, 25, 10, 11, 12, 4, 34};
    int[] tells = {1, 2, 3, -3, -3, 0, 4};
    SheafVotes x = new SheafVotes();
    for (int kind = 0; kind < 7; kind++) {
      x.farm(kind, 100);
      Due.due("of: REAPS of kind " + kind, x.of(kind, 5), reaps[kind]);
      Due.due("of: DAYS of kind " + kind, x.of(kind, 6), days[kind]);
      Due.due("of: TELLS of kind " + kind, x.of(kind, 7), tells[kind]);
    }
    x.weather(0, 99);
    int[] wetReaps = {1, 1, 4, 4, 4, 2, 1};
    int[] wetDays = {100, 100, 25, 30, 32, 50, 100};
    for (int kind = 0; kind < 7; kind++) {
      Due.due("of: REAPS in the wet, kind " + kind, x.of(kind, 5), wetReaps[kind]);
      Due.due("of: DAYS in the wet, kind " + kind, x.of(kind, 6), wetDays[kind]);
    }
    x.weather(0, 0);
    Due.due("of: DAYS dry again", x.of(0, 6), 13);
  }

  private static void reapsAtEdges() {
    SheafVotes x = Due.parish("sly 21;deep 20;deep 6;machine 31;old 9;farm 3;lame 0");
    Due.due("sly: 21 left", x.of(0, 5), 11);
    Due.due("sly: days", x.of(0, 6), 3);
    x.change(0, 1, 20);
    Due.due("sly: 20 left", x.of(0, 5), 5);
    Due.due("deep: 20 left", x.of(1, 5), 5);
    Due.due("deep: 20, 15, 10, 5 and then one by one", x.of(1, 6), 8);
    Due.due("deep: 6 left", x.of(2, 5), 5);
    x.change(2, 1, 5);
    Due.due("deep: 5 left", x.of(2, 5), 1);
    Due.due("deep: 5 days", x.of(2, 6), 5);
    x.weather(0, 49);
    Due.due("machine: wet 49", x.of(3, 5), 30);
    Due.due("machine: days", x.of(3, 6), 2);
    x.weather(0, 50);
    Due.due("machine: wet 50", x.of(3, 5), 2);
    Due.due("machine: days in the wet", x.of(3, 6), 16);
    x.weather(0, 9);
    Due.due("farm: less than a tenth counts nothing", x.of(5, 5), 8);
    x.weather(0, 10);
    Due.due("farm: a tenth", x.of(5, 5), 7);
    Due.due("lame: half is cut", x.of(6, 5), 3);
    Due.due("old: 1 less", x.of(4, 5), 2);
    Due.due("farm: REAPS is not less for what is left", x.of(5, 6), 1);
    Due.due("field 0: no days", x.of(6, 6), 0);
  }

  private static void tellsOfHad() {
    SheafVotes x = new SheafVotes();
    x.farm(4, 10);
    int[] had = {0, 1, 3, 9, 10, 9999};
    int[] tells = {-3, -2, 0, 6, 6, 6};
    for (int i = 0; i < had.length; i++) {
      x.change(0, 4, had[i]);
      Due.due("deep: TELLS with HAD " + had[i], x.of(0, 7), tells[i]);
    }
    x.change(0, 0, 3);
    Due.due("sly: HAD doesn't count", x.of(0, 7), -3);
  }

  private static void ofBeyond() {
    SheafVotes x = Due.parish("farm 5");
    int[][] wrong = {{-1, 0}, {1, 0}, {0, -1}, {0, 8}, {8, 0}, {Integer.MIN_VALUE, 0}, {Integer.MAX_VALUE, 0},
      {0, Integer.MIN_VALUE}, {0, Integer.MAX_VALUE}};
    for (int[] w : wrong) {
      Due.due("of(" + w[0] + ", " + w[1] + ")", x.of(w[0], w[1]), Due.BEYOND);
    }
  }

  private static void change() {
    SheafVotes x = Due.parish("farm 5;sly 6 hands 7 thinks 8");
    int[] was = {3, 6, 7, 8, 0};
    int[] least = {0, 0, 1, -9, 0};
    int[] most = {6, 999, 20, 9, 9999};
    for (int what = 0; what < 5; what++) {
      Due.due("change: what it was", x.change(1, what, least[what]), was[what]);
      Due.due("change: least", x.of(1, what), least[what]);
      Due.due("change: below least", x.change(1, what, least[what] - 1), Due.BEYOND);
      Due.due("change: above most", x.change(1, what, most[what] + 1), Due.BEYOND);
      Due.due("change: as before", x.change(1, what, most[what]), least[what]);
      Due.due("change: most", x.of(1, what), most[what]);
    }
    int[] other = {0, 5, 4, 0, 0};
    for (int what = 0; what < 5; what++) {
      Due.due("change: the other one stays", x.of(0, what), other[what]);
    }
    Due.due("change: what 5", x.change(0, 5, 1), Due.BEYOND);
    Due.due("change: what -1", x.change(0, -1, 1), Due.BEYOND);
    Due.due("change: farm 2", x.change(2, 0, 1), Due.BEYOND);
    Due.due("change: farm -1", x.change(-1, 0, 1), Due.BEYOND);
    for (int far : EXTREMES) {
      Due.due("change: far", x.change(far, far, far), Due.BEYOND);
      Due.due("change: far what", x.change(0, far, 0), Due.BEYOND);
      Due.due("change: far v", x.change(0, 1, far), Due.BEYOND);
    }
  }

  private static void left() {
    SheafVotes x = Due.parish("deep 50;farm 999 hands 1");
    // 50, 39, 28, 17, then by halves of 11: 12, 7, 2, then one by one.
    int[] deep = {50, 39, 28, 17, 12, 7, 2, 1, 0, 0};
    for (int n = 0; n < deep.length; n++) {
      Due.due("left(0, " + n + ")", x.left(0, n), deep[n]);
    }
    Due.due("left: far on", x.left(0, 999), 0);
    Due.due("left: 499 days", x.left(1, 499), 1);
    Due.due("left: 500 days", x.left(1, 500), 0);
    x.weather(0, 99);
    Due.due("left: in the wet", x.left(1, 998), 1);
    Due.due("left: in the wet, to its end", x.left(1, 999), 0);
    Due.due("left: n 1000", x.left(0, 1000), Due.BEYOND);
    Due.due("left: n -1", x.left(0, -1), Due.BEYOND);
    Due.due("left: farm 2", x.left(2, 0), Due.BEYOND);
    Due.due("left: farm -1", x.left(-1, 0), Due.BEYOND);
    Due.due("left: nothing is reaped by asking", x.of(0, 1), 50);
  }

  public static void main(String[] args) {
    newObject();
    weather();
    farm();
    reapsDaysTells();
    reapsAtEdges();
    tellsOfHad();
    ofBeyond();
    change();
    left();
    Due.end();
  }
}
