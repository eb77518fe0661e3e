/** Edges of promises 45 to 49. */
public final class EdgesImagesTest {
  private static void otherwise(SheafVotes x) {
    x.farm(3, 9);
    x.weathers(4);
    x.weather(1, 50);
    x.change(0, 0, 6);
    x.change(1, 1, 500);
    x.change(2, 2, 20);
    for (int spot = 0; spot < 10; spot++) {
      x.hold(spot, spot == 2 ? -1 : 4);
    }
    x.seed(1234);
  }

  private static void moreThanNothing(SheafVotes x) {
    for (int i = 0; i < 8; i++) {
      x.farm(i % 7, 100 + i);
      x.hold(i, i);
    }
    x.weathers(20);
    x.weather(1, 99);
  }

  private static void image() {
    Due.sentence(45, "All but THE TAPE and SHEETS is kept: 1.");
    // Whatever has come to be otherwise since: undo() brings back what was there when image() was called.
    Twins.asked("image(), more, undo()", x -> {
      Twins.rich(x);
      x.image();
    }, x -> {
      otherwise(x);
      return x.undo();
    }, 5);
    Twins.asked("image() of a new one, more, undo()", SheafVotes::image, x -> {
      moreThanNothing(x);
      return x.undo();
    }, 0);
    Twins.asked("image() with 8 FARMS, a YEAR, undo()", x -> {
      Twins.full(x);
      x.image();
    }, x -> {
      x.go(60);
      return x.undo();
    }, 5);
    SheafVotes x = Twins.made(Twins::rich);
    Due.due("image()", x.image(), 1);
    Due.due("image() again", x.image(), 1);
    x.wipe();
    x.feed('a', 1);
    x.sheet(0, 0, 0);
    Twins.row(x, 3, 8, 5);
    x.undo();
    Due.due("THE TAPE stays", x.count(5), 1);
    Due.due("a sheet that is MISSING by now stays so", x.load(0), Due.MISSING);
    Due.due("a new sheet stays", x.load(3), 1);
  }

  private static void undo() {
    Due.sentence(46, "It becomes what was kept latest (which stays): YEAR.");
    SheafVotes x = new SheafVotes();
    x.farm(0, 1);
    x.image();
    x.go(7);
    x.image();
    x.go(9);
    Due.due("undo(): the latest", x.undo(), 7);
    Due.due("YEAR", x.now(0), 7);
    x.go(1);
    x.farm(0, 2);
    Due.due("undo(): it stays", x.undo(), 7);
    Due.due("FARMS", x.count(1), 1);
    Due.due("undo(): at once again", x.undo(), 7);
    Due.due("HAD", x.of(0, 4), 7);
    Twins.asked("undo() right behind image()", y -> {
      Twins.rich(y);
      y.image();
    }, y -> y.undo(), 5);
    // FARMS that are gone are gone from everywhere, and a new one is as at first.
    SheafVotes fewer = new SheafVotes();
    fewer.image();
    Due.read(fewer, "deep 3 hands 9 thinks 5");
    fewer.hold(0, 0);
    fewer.go(1);
    Due.due("undo(): YEAR 0", fewer.undo(), 0);
    Due.due("of(0, 0)", fewer.of(0, 0), Due.BEYOND);
    Due.due("hold(0, 0)", fewer.hold(0, 0), Due.BEYOND);
    Due.due("as(0, 0)", fewer.as(0, 0), Due.MISSING);
    Due.due("farm(0, 5)", fewer.farm(0, 5), 0);
    int[] first = {0, 5, 4, 0, 0, 8, 1, 1};
    for (int what = 0; what < 8; what++) {
      Due.due("of(0, " + what + ")", fewer.of(0, what), first[what]);
    }
    Due.due("as(0, 0): it holds nothing still", fewer.as(0, 0), Due.MISSING);
    Due.sentence(46, "NONE: nothing is kept.");
    Twins.refused("never", Twins::empty, y -> y.undo(), Due.NONE);
    Twins.refused("not any more", Twins::torn, y -> y.undo(), Due.NONE);
    Due.due("something is", Twins.made(Twins::rich).undo(), 3);
  }

  private static void tear() {
    Due.sentence(47, "Nothing is kept: 1 if something was, else 0.");
    Twins.asked("never", Twins::empty, x -> x.tear(), 0);
    Twins.asked("not any more", Twins::torn, x -> x.tear(), 0);
    SheafVotes x = new SheafVotes();
    x.image();
    Due.due("once", x.tear(), 1);
    Due.due("and then", x.tear(), 0);
    x.image();
    x.image();
    Due.due("of two", x.tear(), 1);
    Due.due("none is left", x.tear(), 0);
    Due.due("none is left for undo()", x.undo(), Due.NONE);
    x.image();
    x.undo();
    Due.due("undo() leaves it", x.tear(), 1);
    SheafVotes again = Due.parish("farm 5");
    again.image();
    again.farm(0, 6);
    again.tear();
    Due.due("tear() takes nothing back", again.count(1), 2);
    again.image();
    again.farm(0, 7);
    again.undo();
    Due.due("undo(): what was kept behind it", again.count(1), 2);
  }

  private static void count() {
    Due.sentence(48, "0 YEAR, 1 FARMS, 2 those that are LAST, 3 HANDS of all together, 4 OPINIONS of all together,"
        + " 5 bytes of THE TAPE, 6 z, 7 SPOTS that hold something.");
    int[] none = {0, 0, 0, 0, 0, 0, 1, 0};
    for (int what = 0; what < 8; what++) {
      int w = what;
      Twins.asked("new: count(" + what + ")", Twins::empty, x -> x.count(w), none[what]);
    }
    Twins.Making most = x -> {
      for (int i = 0; i < 8; i++) {
        x.farm(0, 999);
        x.change(i, 2, 20);
        x.change(i, 3, -9);
      }
      for (int spot = 0; spot < 10; spot++) {
        x.hold(spot, 7);
      }
      for (int i = 0; i < 30; i++) {
        x.feed(0, 4);
      }
      x.seed(Integer.MIN_VALUE);
      x.go(60);
    };
    int[] all = {60, 8, 8, 160, -72, 120, Integer.MIN_VALUE, 10};
    for (int what = 0; what < 8; what++) {
      int w = what;
      Twins.asked("most: count(" + what + ")", most, x -> x.count(w), all[what]);
    }
    Due.due("count(2): 1 of 2", Due.parish("farm 8;farm 9").count(2), 1);
    Due.due("count(2): 2 of 2", Due.parish("farm 8;farm 7").count(2), 2);
    Twins.asked("a z like a finding is none", x -> x.seed(Due.NONE), x -> x.count(6), Due.NONE);
    Due.sentence(48, "BEYOND: another what.");
    Twins.range("count(what)", 0, 7, (x, what) -> x.count(what));
    Twins.range("count(what) of a new one", Twins::empty, 0, 7, (x, what) -> x.count(what));
  }

  private static void status() {
    Due.sentence(49, "How many acts answered a finding ever (undo() takes none back): which -1: all, 0 to 6: BEYOND to SIZE.");
    SheafVotes x = new SheafVotes();
    int[] due = new int[7];
    told("at first", x, due);
    x.image();
    Twins.Act[] acts = {y -> y.farm(7, 0), y -> y.farm(0, 0), y -> y.as(0, 5), y -> y.when(1), y -> y.go(60),
      y -> y.as(1, 5), y -> y.sheet(0, 8, -1)};
    SheafVotes late = Due.late(99999);
    for (int i = 0; i < 7; i++) {
      late.farm(0, 9);
    }
    late.farm(0, 10);
    late.change(1, 1, 0);
    late.change(1, 2, 20);
    late.hold(0, 0);
    late.image();
    for (int which = 0; which < 7; which++) {
      for (int times = 0; times <= which; times++) {
        Due.due("finding " + which, acts[which].on(late), Due.BEYOND - which);
        due[which]++;
        told("finding " + which + ", once more", late, due);
      }
    }
    late.undo();
    told("behind undo()", late, due);
    late.tear();
    late.text();
    late.seed(Due.BEYOND);
    late.seed(Due.BEYOND);
    late.count(6);
    told("no findings", late, due);
    Due.due("tear() found nothing", late.undo(), Due.NONE);
    due[3]++;
    told("undo() itself", late, due);
    Due.sentence(49, "BEYOND (counted from then on): another one.");
    Twins.range("status(which)", -1, 6, (y, which) -> y.status(which));
    Twins.range("status(which) of a new one", Twins::empty, -1, 6, (y, which) -> y.status(which));
    int[] others = {-2, 7, Integer.MIN_VALUE, Integer.MAX_VALUE};
    for (int other : others) {
      Due.due("status(" + other + ")", x.status(other), Due.BEYOND);
    }
    Due.due("status(0) then", x.status(0), 4);
    Due.due("status(-1) then", x.status(-1), 4);
    x.undo();
    Due.due("status(0) behind undo()", x.status(0), 4);
  }

  private static void told(String what, SheafVotes x, int[] due) {
    int all = 0;
    for (int which = 0; which < 7; which++) {
      Due.due(what + ": status(" + which + ")", x.status(which), due[which]);
      all += due[which];
    }
    Due.due(what + ": status(-1)", x.status(-1), all);
  }

  public static void main(String[] args) {
    image();
    undo();
    tear();
    count();
    status();
    Due.end();
  }
}
