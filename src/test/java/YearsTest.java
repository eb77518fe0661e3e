/** Promises 12 to 19: years, and what will be. */
public final class YearsTest {
  /** Who is last behind 0, 1, .. years: 1, 1, 1, 4, 3; leans: 5, 7, 9, 11, 23. */
  private static SheafVotes three() {
    return Due.parish("farm 40 thinks 2;farm 20;farm 8 thinks - 1");
  }

  private static void same(String what, SheafVotes x, int... hands2opinion3had4) {
    for (int i = 0; i < hands2opinion3had4.length; i++) {
      Due.due(what + ": of(" + i / 3 + ", " + (2 + i % 3) + ")", x.of(i / 3, 2 + i % 3), hands2opinion3had4[i]);
    }
  }

  private static void go() {
    SheafVotes x = three();
    Due.due("go: the first year", x.go(1), 7);
    same("one year", x, 5, 2, 1, 4, 1, 0, 3, 0, 0);
    Due.due("go: the second year", x.go(1), 9);
    same("two years", x, 6, 2, 2, 4, 2, 0, 2, 1, 0);
    Due.due("go: two years more", x.go(2), 23);
    same("four years", x, 6, 3, 3, 3, 4, 0, 2, 2, 1);
    Due.due("go: YEAR", x.now(0), 4);
    x.weather(2, 60);
    Due.due("go: opinions fall, if it leans below 0", x.go(1), -(3 + 4 + 3));
    // 40 by 14 and 20 by 8 are 3 days each, 8 by 2 is 4.
    same("five years", x, 7, 3, 4, 4, 4, 1, 1, 1, 1);
  }

  private static void goAtEdges() {
    SheafVotes x = Due.parish("farm 999 hands 20 thinks 9;farm 0 hands 1 thinks 9;farm 8 thinks -9");
    x.change(0, 4, 9999);
    x.go(1);
    same("most", x, 20, 9, 9999, 1, 9, 0, 4, -8, 0);
    x.weather(2, 99);
    x.change(1, 3, -9);
    x.go(1);
    same("least", x, 20, 9, 9999, 1, -9, 0, 4, -9, 0);
    x.weather(1, 99);
    x.change(0, 3, 3);
    x.change(1, 3, 9);
    Due.due("a lean of 0", x.lean(), 0);
    x.go(1);
    same("a lean of 0 changes no opinion", x, 20, 3, 9999, 1, 9, 0, 4, -9, 0);
  }

  private static void goByOne() {
    SheafVotes x = Due.parish("machine 9;farm 0 thinks 1");
    Due.due("a lean of 1", x.lean(), 1);
    Due.due("a lean of 1: opinions grow", x.go(1), 2);
    x.change(1, 3, -1);
    Due.due("a lean of -1: opinions fall", x.go(1), -2);
  }

  private static void goAlone() {
    SheafVotes x = Due.parish("farm 8 thinks 2");
    Due.due("one farm is last and first", x.go(3), 6);
    same("alone", x, 7, 2, 3);
    x = new SheafVotes();
    Due.due("no farms", x.go(60), 0);
    Due.due("no farms: YEAR", x.count(0), 60);
    int[] wrong = {0, 61, -1, Integer.MIN_VALUE, Integer.MAX_VALUE};
    for (int n : wrong) {
      Due.due("go(" + n + ")", x.go(n), Due.BEYOND);
    }
    Due.due("no farms: YEAR stays", x.count(0), 60);
  }

  /** It takes more than 512 calls to come there, so the document leaves it free; the program keeps to it all the same. */
  private static void goToTheEnd() {
    SheafVotes x = new SheafVotes();
    for (int i = 0; i < 1666; i++) {
      x.go(60);
    }
    Due.due("YEAR", x.now(0), 99960);
    Due.due("go(40): above 99999", x.go(40), Due.STATE);
    Due.due("go(61): BEYOND ahead of STATE", x.go(61), Due.BEYOND);
    Due.due("go(38)", x.go(38), 0);
    Due.due("weathers(2)", x.weathers(2), Due.STATE);
    x.image();
    Due.due("weathers(1): 99999", x.weathers(1), 0);
    x.undo();
    Due.due("go(1): 99999", x.go(1), 0);
    Due.due("YEAR", x.now(0), 99999);
    Due.due("go(1)", x.go(1), Due.STATE);
    Due.due("weathers(1)", x.weathers(1), Due.STATE);
    Due.due("weathers(21): BEYOND ahead of STATE", x.weathers(21), Due.BEYOND);
    Due.due("no draw was made", x.count(6), 1);
    Due.due("status(4)", x.status(4), 4);
  }

  private static void now() {
    SheafVotes x = three();
    x.go(4);
    int[] all = {4, 6 + 3 + 2, 3 + 4 + 2, 1 + 4, 68, 4};
    for (int what = 0; what < 6; what++) {
      Due.due("now(" + what + ")", x.now(what), all[what]);
    }
    SheafVotes eight = Due.parish("farm 40;farm 8;farm 8;farm 8;farm 8;farm 8;farm 8;farm 8");
    Due.due("now(5): the first", eight.now(5), 5);
    Due.due("next(): all the others", eight.next(), 254);
    for (int i = 0; i < 8; i++) {
      eight.change(i, 4, 1 + i);
    }
    Due.due("now(3): 8", eight.now(3), 255);
    int[] wrong = {-1, 6, Integer.MIN_VALUE, Integer.MAX_VALUE};
    for (int what : wrong) {
      Due.due("now(" + what + ")", x.now(what), Due.BEYOND);
    }
  }

  private static void holderAheadLeans() {
    SheafVotes x = three();
    int[] holders = {1, 1, 1, 4, 3};
    int[] leans = {5, 7, 9, 11, 23};
    int[][] hands = {{4, 5, 6, 7, 6}, {4, 4, 4, 4, 3}, {4, 3, 2, 1, 2}};
    int[][] opinions = {{2, 2, 2, 2, 3}, {0, 1, 2, 3, 4}, {-1, 0, 1, 2, 2}};
    int[][] had = {{0, 1, 2, 3, 3}, {0, 0, 0, 0, 0}, {0, 0, 0, 0, 1}};
    for (int n = 0; n < 5; n++) {
      Due.due("holder(" + n + ")", x.holder(n), holders[n]);
      Due.due("leans(" + n + ")", x.leans(n), leans[n]);
      for (int farm = 0; farm < 3; farm++) {
        Due.due("ahead: hands", x.ahead(farm, 2, n), hands[farm][n]);
        Due.due("ahead: opinion", x.ahead(farm, 3, n), opinions[farm][n]);
        Due.due("ahead: had", x.ahead(farm, 4, n), had[farm][n]);
      }
    }
    int far = x.leans(60);
    int farHolder = x.holder(60);
    int farHands = x.ahead(1, 2, 60);
    Due.due("nothing changed", x.now(0), 0);
    same("nothing changed", x, 4, 2, 0, 4, 0, 0, 4, -1, 0);
    Due.due("go(60) as leans(60)", x.go(60), far);
    Due.due("last() as holder(60)", x.last(), farHolder);
    Due.due("of() as ahead(60)", x.of(1, 2), farHands);
  }

  private static void wrongOnes() {
    SheafVotes x = three();
    int[] wrong = {-1, 61, Integer.MIN_VALUE, Integer.MAX_VALUE};
    for (int n : wrong) {
      Due.due("holder(" + n + ")", x.holder(n), Due.BEYOND);
      Due.due("leans(" + n + ")", x.leans(n), Due.BEYOND);
      Due.due("ahead(0, 2, " + n + ")", x.ahead(0, 2, n), Due.BEYOND);
      Due.due("ahead(0, " + n + ", 0)", x.ahead(0, n, 0), Due.BEYOND);
      Due.due("ahead(" + n + ", 2, 0)", x.ahead(n, 2, 0), Due.BEYOND);
      Due.due("when(" + n + ")", x.when(n), Due.BEYOND);
    }
    Due.due("ahead: FIELD", x.ahead(0, 1, 0), Due.BEYOND);
    Due.due("ahead: REAPS", x.ahead(0, 5, 0), Due.BEYOND);
    Due.due("ahead: farm 3", x.ahead(3, 2, 0), Due.BEYOND);
    Due.due("when(3)", x.when(3), Due.BEYOND);
    Due.due("turns(100)", x.turns(100), Due.BEYOND);
    Due.due("turns(-100)", x.turns(-100), Due.BEYOND);
  }

  private static void whenTieTurns() {
    SheafVotes x = three();
    Due.due("when(0)", x.when(0), 0);
    Due.due("when(1)", x.when(1), 4);
    Due.due("when(2)", x.when(2), 3);
    Due.due("tie()", x.tie(), 4);
    Due.due("turns(5): it leans more and more", x.turns(5), Due.NONE);
    Due.due("turns(6)", x.turns(6), 1);
    Due.due("turns(10)", x.turns(10), 3);
    Due.due("turns(12)", x.turns(12), 4);
    x.go(4);
    Due.due("tie() now", x.tie(), 0);
    SheafVotes never = Due.parish("farm 999;farm 0");
    Due.due("when: never", never.when(1), Due.NONE);
    Due.due("tie: never", never.tie(), Due.NONE);
    Due.due("turns: never", never.turns(0), Due.NONE);
    Due.due("tie: no farms", new SheafVotes().tie(), Due.NONE);
    Due.due("turns: no farms", new SheafVotes().turns(0), Due.NONE);
    Due.due("nothing changed", never.of(0, 4), 0);
  }

  private static void leansAlong() {
    SheafVotes x = Due.parish("farm 0 thinks 1;machine 1");
    Due.due("turns: an opinion grows to 9", x.turns(9), 8);
    Due.due("turns: and not to 10", x.turns(10), Due.NONE);
    SheafVotes deep = Due.parish("deep 999 thinks 9");
    Due.due("leans: a deep one tells 6 at most", deep.leans(9), 3 * 9 * 6);
    Due.due("leans: later on, too", deep.leans(60), 3 * 9 * 6);
    Due.due("turns: a deep one comes round", deep.turns(1), 4);
  }

  /** The 60th year still counts, the 61st doesn't. */
  private static void sixtieth() {
    SheafVotes six = Due.parish("old 866 hands 10;lame 854 hands 1;old 835 hands 2;machine 877 hands 20",
        "old 824 hands 1;farm 796 hands 9;wet 35");
    Due.due("tie: 60", six.tie(), 60);
    Due.due("when: 61", six.when(5), Due.NONE);
    six.go(1);
    Due.due("when: 60 then", six.when(5), 60);
    SheafVotes also = Due.parish("lame 909 hands 15;lame 913 hands 18;machine 902 hands 4;farm 929 hands 19",
        "old 943 hands 19;deep 944 hands 19;wet 62");
    Due.due("when: 60", also.when(3), 60);
    SheafVotes eight = Due.parish("sly 753 hands 17;machine 737 hands 17;old 712 hands 16;deep 743 hands 18",
        "lame 727 hands 12;lame 697 hands 19;farm 738 hands 17;old 744 hands 11;wet 60");
    Due.due("tie: 61", eight.tie(), Due.NONE);
    eight.go(1);
    Due.due("tie: 60 then", eight.tie(), 60);
    SheafVotes three = Due.parish("farm 325 hands 15 thinks 4;lame 933 hands 11 thinks 5;sly 742 hands 8 thinks 8;wet 29");
    Due.due("turns: 60", three.turns(20), 60);
    SheafVotes four = Due.parish("lame 946 hands 13 thinks 7;lame 53 hands 11 thinks 0",
        "sly 698 hands 7 thinks 4;old 712 hands 13 thinks -5;wet 54");
    Due.due("turns: 61", four.turns(20), Due.NONE);
    int answer = four.answer(20);
    four.go(60);
    four.go(1);
    Due.due("turns: it is otherwise behind 61", four.answer(20), 1 - answer);
  }

  public static void main(String[] args) {
    go();
    goAtEdges();
    goByOne();
    goAlone();
    goToTheEnd();
    now();
    holderAheadLeans();
    wrongOnes();
    whenTieTurns();
    leansAlong();
    sixtieth();
    Due.end();
  }
}
