/** Promises 45 to 49. */
public final class ImagesTest {
  private static SheafVotes full() {
    SheafVotes x = Due.parish("farm 40 hands 5 thinks 2;sly 20;wet 11;mice 12;rain 13");
    x.go(3);
    x.seed(77);
    x.hold(2, 1);
    return x;
  }

  private static void spoil(SheafVotes x) {
    x.farm(3, 9);
    x.weathers(4);
    x.weather(1, 50);
    x.change(0, 0, 6);
    x.change(1, 1, 500);
    x.hold(2, -1);
    x.hold(3, 2);
  }

  /** All that an image keeps, as numbers. */
  private static long[] told(SheafVotes x) {
    long[] all = new long[60];
    int n = 0;
    for (int what = 0; what < 8; what++) {
      all[n++] = what == 5 ? 0 : x.count(what);
    }
    for (int farm = 0; farm < x.count(1); farm++) {
      for (int what = 0; what < 8; what++) {
        all[n++] = x.of(farm, what);
      }
    }
    for (int what = 0; what < 3; what++) {
      int was = x.weather(what, 0);
      x.weather(what, was);
      all[n++] = was;
    }
    for (int spot = 0; spot < 10; spot++) {
      all[n++] = x.as(spot, 0);
    }
    return all;
  }

  private static void undo() {
    SheafVotes x = full();
    long[] before = told(x);
    Due.due("image()", x.image(), 1);
    spoil(x);
    Due.holds("spoiled", !java.util.Arrays.equals(before, told(x)));
    Due.due("undo()", x.undo(), 3);
    Due.holds("all as it was", java.util.Arrays.equals(before, told(x)));
    spoil(x);
    Due.due("undo() again", x.undo(), 3);
    Due.holds("the image stays", java.util.Arrays.equals(before, told(x)));
    spoil(x);
    x.image();
    long[] later = told(x);
    x.go(5);
    Due.due("undo(): the latest", x.undo(), 7);
    Due.holds("the latest", java.util.Arrays.equals(later, told(x)));
    Due.due("farms of it", x.count(1), 3);
  }

  private static void notKept() {
    SheafVotes x = full();
    x.image();
    x.feed('a', 1);
    x.sheet(0, 8, 1);
    x.as(9, 0);
    x.undo();
    Due.due("THE TAPE stays", x.count(5), 1);
    Due.due("SHEETS stay", x.write(0, 0, 1), 1);
    Due.due("findings stay", x.status(-1), 1);
  }

  private static void tear() {
    SheafVotes x = full();
    Due.due("tear(): nothing", x.tear(), 0);
    Due.due("undo(): nothing", x.undo(), Due.NONE);
    Due.due("nothing changed", x.now(0), 3);
    x.image();
    x.image();
    Due.due("tear()", x.tear(), 1);
    Due.due("tear() again", x.tear(), 0);
    Due.due("undo(): torn", x.undo(), Due.NONE);
    Due.due("nothing changed", x.count(1), 2);
  }

  private static void fewerFarms() {
    SheafVotes x = new SheafVotes();
    x.image();
    Due.read(x, "farm 3 hands 9 thinks 5");
    x.hold(0, 0);
    Due.due("undo()", x.undo(), 0);
    Due.due("no farms", x.count(1), 0);
    Due.due("no such farm", x.of(0, 0), Due.BEYOND);
    Due.due("the spot holds nothing", x.as(0, 0), Due.MISSING);
    x.farm(0, 5);
    int[] first = {0, 5, 4, 0, 0, 8, 1, 1};
    for (int what = 0; what < 8; what++) {
      Due.due("a new farm is as at first", x.of(0, what), first[what]);
    }
  }

  private static void count() {
    SheafVotes x = full();
    x.feed(0, 3);
    x.hold(9, 0);
    // Behind 3 years: 40 by 10 and more and 20 by halves of 10 and fewer.
    int[] all = {3, 2, Integer.bitCount(x.last()), x.now(1), x.now(2), 3, 77, 2};
    for (int what = 0; what < 8; what++) {
      Due.due("count(" + what + ")", x.count(what), all[what]);
    }
    SheafVotes two = Due.parish("farm 8 hands 7 thinks 3;farm 8 thinks -5;farm 0");
    Due.due("count(2)", two.count(2), 2);
    Due.due("count(3)", two.count(3), 15);
    Due.due("count(4)", two.count(4), -2);
    int[] wrong = {-1, 8, Integer.MIN_VALUE, Integer.MAX_VALUE};
    for (int what : wrong) {
      Due.due("count(" + what + ")", x.count(what), Due.BEYOND);
    }
  }

  private static void status() {
    SheafVotes x = new SheafVotes();
    x.farm(9, 9);
    x.undo();
    x.undo();
    x.as(0, 0);
    x.sheet(0, 8, -1);
    x.farm(3, 1);
    x.hold(0, 0);
    x.as(0, 5);
    for (int i = 0; i < 31; i++) {
      x.feed(0, 4);
    }
    int[] counts = {1, 1, 1, 2, 0, 1, 1};
    for (int which = 0; which < 7; which++) {
      Due.due("status(" + which + ")", x.status(which), counts[which]);
    }
    Due.due("status(-1)", x.status(-1), 7);
    Due.due("status(7)", x.status(7), Due.BEYOND);
    Due.due("status(-2)", x.status(-2), Due.BEYOND);
    Due.due("status(least)", x.status(Integer.MIN_VALUE), Due.BEYOND);
    Due.due("status(most)", x.status(Integer.MAX_VALUE), Due.BEYOND);
    Due.due("status(0): counted from then on", x.status(0), 5);
    Due.due("status(-1)", x.status(-1), 11);
  }

  /** Texts with a fault and numbers that look like findings are none. */
  private static void noFindings() {
    SheafVotes x = new SheafVotes();
    for (int which = 0; which < 7; which++) {
      x.seed(Due.BEYOND - which);
      x.count(6);
    }
    x.text();
    Due.due("status(-1)", x.status(-1), 0);
  }

  public static void main(String[] args) {
    undo();
    notKept();
    tear();
    fewerFarms();
    count();
    status();
    noFindings();
    Due.end();
  }
}
