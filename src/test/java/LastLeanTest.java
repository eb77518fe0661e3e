/** Promises 7 to 11. */
public final class LastLeanTest {
  private static void sets() {
    // Days: 5, 3, 1, 5, 3, 1, 0, 0.
    SheafVotes x = Due.parish("farm 40;farm 20;farm 8;farm 33;farm 24;farm 1;farm 0;sly 0");
    Due.due("last()", x.last(), 1 + 8);
    Due.due("next()", x.next(), 2 + 16);
    Due.due("first()", x.first(), 64 + 128);
    x.change(0, 1, 0);
    x.change(3, 1, 0);
    Due.due("last() then", x.last(), 2 + 16);
    Due.due("next() then", x.next(), 4 + 32);
    Due.due("first() then", x.first(), 1 + 8 + 64 + 128);
  }

  private static void alike() {
    SheafVotes x = new SheafVotes();
    Due.due("no farms: last()", x.last(), 0);
    Due.due("no farms: first()", x.first(), 0);
    Due.due("no farms: next()", x.next(), 0);
    x.farm(0, 0);
    x.farm(1, 0);
    Due.due("all with no days: last()", x.last(), 3);
    Due.due("all with no days: first()", x.first(), 3);
    Due.due("all with no days: next()", x.next(), 0);
    x.change(1, 1, 1);
    Due.due("one day and none: last()", x.last(), 2);
    Due.due("one day and none: next()", x.next(), 1);
  }

  private static void leanOfKinds() {
    // Only the first one is last: of it all counts three times.
    int[] leans = {6 + 5, 12 + 5, 18 + 5, -18 + 5, -18 + 5, 5, 24 + 5};
    for (int kind = 0; kind < 7; kind++) {
      SheafVotes x = new SheafVotes();
      x.farm(kind, 900);
      x.farm(0, 1);
      x.change(0, 3, 2);
      x.change(1, 3, 5);
      Due.due("lean() with kind " + kind, x.lean(), leans[kind]);
    }
    SheafVotes x = Due.parish("deep 900 thinks 2;farm 1 thinks 5");
    x.change(0, 4, 7);
    Due.due("lean() with a deep one that had it", x.lean(), 3 * 2 * 4 + 5);
  }

  private static void leanOfSeveralLast() {
    SheafVotes x = Due.parish("farm 8 thinks 2;lame 4 thinks -3;farm 0 thinks 9");
    Due.due("lean(): both that are last", x.lean(), 6 - 18 + 9);
    Due.due("lean(): no farms", new SheafVotes().lean(), 0);
  }

  private static void miceAndRain() {
    SheafVotes x = Due.parish("farm 8 thinks 2");
    int[] mice = {0, 9, 10, 19, 50, 59, 60, 69, 70, 99};
    int[] leans = {6, 6, 5, 5, 1, 1, 0, 0, 0, 0};
    for (int i = 0; i < mice.length; i++) {
      x.weather(1, mice[i]);
      x.weather(2, 59);
      Due.due("lean() with MICE " + mice[i], x.lean(), leans[i]);
      x.weather(2, 60);
      Due.due("lean() with MICE " + mice[i] + " and RAIN", x.lean(), -leans[i]);
      x.change(0, 3, -2);
      Due.due("lean() below 0 with MICE " + mice[i] + " and RAIN", x.lean(), leans[i]);
      x.weather(2, 0);
      Due.due("lean() below 0 with MICE " + mice[i], x.lean(), -leans[i]);
      x.change(0, 3, 2);
    }
  }

  private static void answers() {
    SheafVotes x = Due.parish("farm 8 thinks 2");
    Due.due("answer(6)", x.answer(6), 1);
    Due.due("answer(7)", x.answer(7), 0);
    Due.due("answer(-99)", x.answer(-99), 1);
    Due.due("answer(99)", x.answer(99), 0);
    Due.due("answer(100)", x.answer(100), Due.BEYOND);
    Due.due("answer(-100)", x.answer(-100), Due.BEYOND);
    Due.due("answer(least)", x.answer(Integer.MIN_VALUE), Due.BEYOND);
    Due.due("answer(most)", x.answer(Integer.MAX_VALUE), Due.BEYOND);
    x.weather(2, 99);
    Due.due("answer(-6) in the rain", x.answer(-6), 1);
    Due.due("answer(-5) in the rain", x.answer(-5), 0);
    Due.due("answer(0) without farms", new SheafVotes().answer(0), 1);
    Due.due("answer(1) without farms", new SheafVotes().answer(1), 0);
  }

  public static void main(String[] args) {
    sets();
    alike();
    leanOfKinds();
    leanOfSeveralLast();
    miceAndRain();
    answers();
    Due.end();
  }
}
