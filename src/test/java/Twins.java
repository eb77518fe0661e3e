import java.util.ArrayList;
import java.util.List;

/**
 * Two objects of the same making, of which one is asked something more: then both are asked all
 * that can be told of them. So a refused call that changes anything but status() is seen, and so
 * is a question that changes anything at all. Both are spent by it.
 */
final class Twins {
  /** How an object comes to what it is when the call comes. */
  interface Making {
    void of(SheafVotes x);
  }

  /** A call. */
  interface Act {
    long on(SheafVotes x);
  }

  /** A call with a value that is moved over its edges. */
  interface ActWith {
    long on(SheafVotes x, int v);
  }

  private Twins() {
  }

  static SheafVotes made(Making making) {
    SheafVotes x = new SheafVotes();
    making.of(x);
    return x;
  }

  /** Nothing at all has been called. */
  static void empty(SheafVotes x) {
  }

  /** What texts tell, behind other questions. */
  static Making texts(String... texts) {
    return x -> {
      for (String text : texts) {
        Due.holds("the test's own text reads: " + text, Due.read(x, text) > 0);
      }
      askOtherwise(x);
    };
  }

  /** What was asked when all was otherwise must not matter any more. */
  static void askOtherwise(SheafVotes x) {
    x.image();
    for (int what = 0; what < 3; what++) {
      x.weather(what, 99);
    }
    for (int farm = 0; farm < x.count(1); farm++) {
      x.change(farm, 1, 100 * farm + 7);
      x.change(farm, 3, 9 - 2 * farm);
    }
    x.go(1);
    x.leans(60);
    x.undo();
    x.tear();
  }

  /** Something of everything: farms, years, spots, an image that is otherwise by now, a tape, sheets of each sort. */
  static void rich(SheafVotes x) {
    x.farm(0, 40);
    x.farm(3, 20);
    x.farm(6, 30);
    x.change(0, 2, 5);
    x.change(0, 3, 2);
    x.change(1, 3, -3);
    x.weather(0, 11);
    x.weather(1, 12);
    x.weather(2, 13);
    x.hold(2, 1);
    x.hold(9, 2);
    x.seed(77);
    x.go(3);
    x.image();
    x.farm(4, 50);
    x.change(3, 4, 5);
    x.hold(0, 3);
    x.weather(1, 25);
    x.seed(-78);
    x.go(2);
    row(x, 0, 8, 5, 6, 7);
    row(x, 1, 16, 300, 301);
    row(x, 2, 32, 400, 401, 402, 403);
    Due.put(x, "rain 8");
    // One finding of each sort that comes easily, so that a wrong count shows.
    x.of(9, 0);
    x.as(1, 0);
    x.sheet(0, 8, -1);
    x.as(2, 5);
  }

  /** As rich, with all the farms and bytes that there may be. */
  static void full(SheafVotes x) {
    rich(x);
    for (int i = 4; i < 8; i++) {
      x.farm(i - 2, 10 * i);
    }
    x.wipe();
    for (int i = 0; i < 30; i++) {
      x.feed('w' << 24 | 'e' << 16 | 't' << 8 | ' ', 4);
    }
  }

  /** As rich, but nothing is kept. */
  static void torn(SheafVotes x) {
    rich(x);
    x.tear();
  }

  static void row(SheafVotes x, int s, int bits, int... numbers) {
    x.sheet(s, bits, numbers.length);
    for (int i = 0; i < numbers.length; i++) {
      x.write(s, i, numbers[i]);
    }
  }

  /** The call answers a finding, which is counted once, and nothing else has changed. */
  static void refused(String call, Making making, Act act, int finding) {
    compare(call, making, act, finding, finding);
  }

  /** As above, on what rich() makes. */
  static void refused(String call, Act act, int finding) {
    compare(call, Twins::rich, act, finding, finding);
  }

  /** The call answers what is due, and nothing has changed, nor been counted. */
  static void asked(String call, Making making, Act act, long want) {
    compare(call, making, act, want, 0);
  }

  private static void compare(String call, Making making, Act act, long want, int finding) {
    SheafVotes one = made(making);
    SheafVotes other = made(making);
    Due.due(call, act.on(one), want);
    for (int which = -1; which < 7; which++) {
      boolean isCounted = finding != 0 && (which == -1 || which == Due.BEYOND - finding);
      Due.due(call + ": status(" + which + ") then", one.status(which), other.status(which) + (isCounted ? 1 : 0));
    }
    List<Long> told = told(one);
    List<Long> due = told(other);
    Due.holds(call + " changed something: " + told + " is told, due is " + due, told.equals(due));
  }

  /**
   * A range of values: its ends and those next to them are taken, those outside are refused as
   * BEYOND and change nothing.
   */
  static void range(String call, Making making, int least, int most, ActWith act) {
    int[] within = {least, Math.min(least + 1, most), Math.max(most - 1, least), most};
    for (int v : within) {
      Due.holds(call + " with " + v + " is taken", act.on(made(making), v) != Due.BEYOND);
    }
    int[] outside = {least - 1, most + 1, least - 2, most + 2, Integer.MIN_VALUE, Integer.MAX_VALUE};
    for (int v : outside) {
      if (v < least || v > most) {
        refused(call + " with " + v, making, x -> act.on(x, v), Due.BEYOND);
      }
    }
  }

  static void range(String call, int least, int most, ActWith act) {
    range(call, Twins::rich, least, most, act);
  }

  /** All that can be told of an object, but for status(). */
  private static List<Long> told(SheafVotes x) {
    List<Long> told = new ArrayList<>();
    parish(x, told);
    sheets(x, told);
    told.add((long) x.undo());
    parish(x, told);
    told.add((long) x.tear());
    told.add((long) x.text());
    parish(x, told);
    return told;
  }

  private static void parish(SheafVotes x, List<Long> told) {
    for (int what = 0; what < 8; what++) {
      told.add((long) x.count(what));
    }
    for (int farm = 0; farm < x.count(1); farm++) {
      for (int what = 0; what < 8; what++) {
        told.add((long) x.of(farm, what));
      }
    }
    for (int what = 0; what < 3; what++) {
      int was = x.weather(what, 0);
      x.weather(what, was);
      told.add((long) was);
    }
    for (int spot = 0; spot < 10; spot++) {
      told.add((long) x.as(spot, 0));
    }
  }

  /** Each number is copied to the first place and loaded from there, as far as it may be a FIELD; then what is left of a wide one. */
  private static void sheets(SheafVotes x, List<Long> told) {
    if (x.count(1) == 0) {
      x.farm(0, 0);
    }
    for (int s = 0; s < 4; s++) {
      for (int i = 0; i <= 40; i++) {
        told.add((long) x.copy(s, i, s, 0, 1));
        told.add((long) x.load(s));
        told.add((long) x.of(0, 1));
        if (told.get(told.size() - 3) != 1) {
          break;
        }
      }
      x.write(s, 0, 65536 + 256 + 1);
      told.add((long) x.load(s));
      told.add((long) x.of(0, 1));
    }
  }
}
