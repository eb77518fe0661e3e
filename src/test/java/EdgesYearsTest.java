/** Edges of the document's Terms, point 2 (years), and of promises 7 to 19. */
public final class EdgesYearsTest {
  private static void of(String what, SheafVotes x, int farm, int hands, int opinion, int had) {
    Due.due(what + ": HANDS of " + farm, x.of(farm, 2), hands);
    Due.due(what + ": OPINION of " + farm, x.of(farm, 3), opinion);
    Due.due(what + ": HAD of " + farm, x.of(farm, 4), had);
  }

  private static void yearOfHands() {
    Due.sentence(0, "A YEAR goes by, by who is LAST, FIRST, and the LEAN, as all is ahead of it: of those that are LAST HAD"
        + " is 1 more (9999 at most), and HANDS 1 more (20 at most); of those that are FIRST and not LAST HANDS are 1 less"
        + " (1 at least); OPINION of those that aren't LAST is 1 more, if LEAN is above 0, 1 less, if it is below 0 (-9 to 9).");
    int[] had = {0, 1, 9997, 9998, 9999};
    int[] hands = {1, 2, 18, 19, 20};
    for (int i = 0; i < 5; i++) {
      // The first is LAST with any HANDS, the second is FIRST, the third is neither.
      SheafVotes x = Due.parish("farm 999 hands " + hands[i] + ";farm 0 hands " + hands[i] + ";farm 4 hands " + hands[i]);
      x.change(0, 4, had[i]);
      x.change(1, 4, had[i]);
      x.go(1);
      of("LAST", x, 0, Math.min(20, hands[i] + 1), 0, Math.min(9999, had[i] + 1));
      of("FIRST", x, 1, Math.max(1, hands[i] - 1), 0, had[i]);
      of("neither", x, 2, hands[i], 0, 0);
      SheafVotes alike = Due.parish("farm 0 hands " + hands[i] + ";farm 0 hands 7");
      alike.go(1);
      of("LAST and FIRST", alike, 0, Math.min(20, hands[i] + 1), 0, 1);
      of("LAST and FIRST", alike, 1, 8, 0, 1);
    }
    SheafVotes one = Due.parish("farm 0 hands 1");
    one.go(1);
    of("alone", one, 0, 2, 0, 1);
    SheafVotes first = Due.parish("farm 99;farm 1;farm 8;farm 9");
    first.go(1);
    of("both that are FIRST", first, 1, 3, 0, 0);
    of("both that are FIRST", first, 2, 3, 0, 0);
    of("not FIRST by a DAY", first, 3, 4, 0, 0);
    // With a hand less the first one would be the latest: but LAST is who was it ahead of the YEAR.
    SheafVotes ahead = Due.parish("farm 8 hands 2;farm 24;farm 24");
    ahead.go(1);
    of("ahead of it", ahead, 0, 1, 0, 0);
    of("ahead of it", ahead, 1, 5, 0, 1);
    of("ahead of it", ahead, 2, 5, 0, 1);
  }

  private static void yearOfOpinions() {
    // A MACHINE is LAST and tells nothing, so the LEAN is what the other one thinks.
    int[][] grown = {{-9, -9}, {-8, -9}, {-2, -3}, {-1, -2}, {0, 0}, {1, 2}, {2, 3}, {8, 9}, {9, 9}};
    for (int[] g : grown) {
      SheafVotes x = Due.parish("machine 9 thinks 5;farm 0");
      x.change(1, 3, g[0]);
      Due.due("LEAN", x.lean(), g[0]);
      x.go(1);
      Due.due("LEAN " + g[0] + ": OPINION of one that isn't LAST", x.of(1, 3), g[1]);
      Due.due("LEAN " + g[0] + ": OPINION of one that is", x.of(0, 3), 5);
    }
    // Up, though it thinks otherwise, and neither FIRST nor LAST.
    SheafVotes x = Due.parish("farm 40 thinks 9;farm 9 thinks -9;farm 0");
    x.go(1);
    Due.due("LEAN 18: -9 then", x.of(1, 3), -8);
    Due.due("LEAN 18: 0 then", x.of(2, 3), 1);
    x.weather(2, 60);
    x.go(1);
    Due.due("LEAN below 0 by RAIN: -8 then", x.of(1, 3), -9);
    // MICE take all of a LEAN of 9, and nothing changes; of 10 they leave 1.
    SheafVotes mice = Due.parish("machine 9;farm 0 thinks 9;farm 0;mice 90");
    mice.go(1);
    Due.due("LEAN 0 by MICE", mice.of(2, 3), 0);
    mice.weather(1, 89);
    mice.go(1);
    Due.due("LEAN 1", mice.of(2, 3), 1);
    // 4 less 3 times 1 are 1; with the sly one's 2 they would be below 0 already.
    SheafVotes ahead = Due.parish("machine 9;sly 0 thinks 1;farm 0 thinks 4");
    Due.due("LEAN ahead", ahead.lean(), 1);
    Due.due("LEAN then", ahead.go(1), 5 - 6);
    Due.due("the sly one", ahead.of(1, 3), 2);
    Due.due("the other one, by the LEAN ahead", ahead.of(2, 3), 5);
  }

  private static void yearOfYears() {
    Due.sentence(0, "YEAR is one more (99999 at most).");
    SheafVotes x = new SheafVotes();
    x.go(1);
    Due.due("YEAR", x.now(0), 1);
    x.go(60);
    Due.due("YEAR", x.now(0), 61);
    SheafVotes late = Due.late(99998);
    Due.due("YEAR", late.now(0), 99998);
    late.go(1);
    Due.due("YEAR", late.now(0), 99999);
    late.go(1);
    Due.due("YEAR, still", late.now(0), 99999);
  }

  private static void sets() {
    int[] fields = {7, 8, 9, 16, 17};
    int[] last = {3, 3, 2, 2, 2};
    int[] first = {3, 3, 1, 1, 1};
    int[] next = {0, 0, 1, 1, 1};
    for (int i = 0; i < fields.length; i++) {
      String text = "farm 8;farm " + fields[i];
      Due.sentence(7, "LAST, as a set.");
      Twins.asked(text, Twins.texts(text), x -> x.last(), last[i]);
      Due.sentence(8, "FIRST, as a set.");
      Twins.asked(text, Twins.texts(text), x -> x.first(), first[i]);
      Due.sentence(9, "FARMS with most DAYS but for those that are LAST, as a set.");
      Twins.asked(text, Twins.texts(text), x -> x.next(), next[i]);
    }
    Twins.asked("no FARMS", Twins::empty, x -> x.next(), 0);
    Twins.asked("one FARM", x -> x.farm(0, 5), x -> x.next(), 0);
    Twins.asked("none is next, all are LAST", Twins.texts("farm 1;farm 1;farm 8"), x -> x.next(), 0);
    Twins.asked("next without DAYS", Twins.texts("farm 0;farm 1;farm 0"), x -> x.next(), 5);
    Twins.asked("next of three", Twins.texts("farm 9;farm 24;farm 8;farm 16;farm 0"), x -> x.next(), 1 + 8);
    Twins.asked("next: none of those that are LAST", Twins::full, x -> x.next() & x.last(), 0);
    Twins.asked("next, the first is LAST", Twins.texts("farm 24;farm 9;farm 8;farm 16;farm 0"), x -> x.next(), 2 + 8);
    Twins.asked("next, the 8th is LAST", Twins.texts("farm 8;farm 1;farm 2;farm 3;farm 4;farm 5;farm 0;farm 9"), x -> x.next(), 63);
    // WET 70: 9 by 1 are 9 days, 10 by a MACHINE's 2 are 5, 13 by 4 are 4; dry it is 2, 1 and 2.
    Twins.Making wet = Twins.texts("farm 9;machine 10;proud 13;wet 70");
    Twins.asked("next in the wet", wet, x -> x.next(), 2);
    Twins.asked("now(5) in the wet", wet, x -> x.now(5), 9);
    Twins.asked("last in the wet", wet, x -> x.last(), 1);
    Twins.asked("first in the wet", wet, x -> x.first(), 4);
    Due.sentence(8, "FIRST, as a set.");
    Twins.asked("no FARMS", Twins::empty, x -> x.first(), 0);
    Due.sentence(7, "LAST, as a set.");
    Twins.asked("no FARMS", Twins::empty, x -> x.last(), 0);
    Due.due("the 8th alone", Due.parish("farm 1;farm 1;farm 1;farm 1;farm 1;farm 1;farm 1;farm 9").last(), 128);
  }

  private static void leanAndAnswer() {
    Due.sentence(10, "LEAN.");
    Twins.asked("no FARMS", Twins::empty, x -> x.lean(), 0);
    Twins.asked("one", Twins.texts("farm 0 thinks -9"), x -> x.lean(), -27);
    Due.sentence(11, "ANSWER. BEYOND.");
    Twins.range("answer(q)", -99, 99, (x, q) -> x.answer(q));
    Twins.range("answer(q) without FARMS", Twins::empty, -99, 99, (x, q) -> x.answer(q));
    Twins.Making six = Twins.texts("farm 8 thinks 2");
    Twins.asked("LEAN 6", six, x -> x.answer(5), 1);
    Twins.asked("LEAN 6", six, x -> x.answer(6), 1);
    Twins.asked("LEAN 6", six, x -> x.answer(7), 0);
    Twins.asked("LEAN 0", Twins::empty, x -> x.answer(-1), 1);
    Twins.asked("LEAN 0", Twins::empty, x -> x.answer(0), 1);
    Twins.asked("LEAN 0", Twins::empty, x -> x.answer(1), 0);
  }

  private static void go() {
    Due.sentence(12, "n YEARS (1 to 60): LEAN then. BEYOND.");
    Twins.range("go(n)", 1, 60, (x, n) -> x.go(n));
    Twins.range("go(n) without FARMS", Twins::empty, 1, 60, (x, n) -> x.go(n));
    for (int n : new int[] {1, 2, 59, 60}) {
      SheafVotes x = Due.parish("farm 40 thinks 2;farm 20;farm 8 thinks - 1");
      SheafVotes byOne = Due.parish("farm 40 thinks 2;farm 20;farm 8 thinks - 1");
      for (int i = 0; i < n; i++) {
        byOne.go(1);
      }
      Due.due("go(" + n + ")", x.go(n), byOne.lean());
      Due.due("go(" + n + "): YEAR", x.now(0), n);
      for (int farm = 0; farm < 3; farm++) {
        of("go(" + n + ")", x, farm, byOne.of(farm, 2), byOne.of(farm, 3), byOne.of(farm, 4));
      }
    }
    Due.sentence(12, "STATE: YEAR would be above 99999.");
    int[][] ends = {{99939, 60}, {99998, 1}, {99997, 2}, {99940, 59}};
    for (int[] e : ends) {
      SheafVotes x = Due.late(e[0]);
      x.farm(0, 5);
      x.change(0, 3, 1);
      Due.due("YEAR " + e[0] + ": one too many", x.go(e[1] + 1), e[1] == 60 ? Due.BEYOND : Due.STATE);
      Due.due("YEAR " + e[0] + ": status(4)", x.status(4), e[1] == 60 ? 0 : 1);
      Due.due("YEAR " + e[0] + ": it stays", x.now(0), e[0]);
      of("YEAR " + e[0], x, 0, 4, 1, 0);
      Due.due("YEAR " + e[0] + ": as many as may be", x.go(e[1]), 3);
      Due.due("YEAR then", x.now(0), 99999);
      Due.due("go(1) then", x.go(1), Due.STATE);
      Due.due("YEAR, still", x.now(0), 99999);
      Due.due("leans(60) then", x.leans(60), 3);
    }
    Due.due("YEAR 99940: 60 are too many", Due.late(99940).go(60), Due.STATE);
  }

  private static void now() {
    Due.sentence(13, "What 0 YEAR, 1 HANDS of all together, 2 OPINIONS of all together, 3 FARMS that HAD it ever, as a set,"
        + " 4 FIELDS of all together, 5 the most DAYS (0 without FARMS). BEYOND.");
    Twins.range("now(what)", 0, 5, (x, what) -> x.now(what));
    Twins.range("now(what) without FARMS", Twins::empty, 0, 5, (x, what) -> x.now(what));
    for (int what = 0; what < 6; what++) {
      int w = what;
      Twins.asked("without FARMS: now(" + what + ")", Twins::empty, x -> x.now(w), 0);
    }
    Twins.Making most = x -> {
      for (int i = 0; i < 8; i++) {
        x.farm(0, 999);
        x.change(i, 2, 20);
        x.change(i, 3, 9);
      }
    };
    int[] ofMost = {0, 160, 72, 0, 7992, 25};
    for (int what = 0; what < 6; what++) {
      int w = what;
      Twins.asked("8 FARMS: now(" + what + ")", most, x -> x.now(w), ofMost[what]);
    }
    Twins.asked("now(5): of the first", Twins.texts("farm 40;farm 8;farm 0"), x -> x.now(5), 5);
    Twins.asked("now(5): of the last", Twins.texts("farm 0;farm 8;farm 40"), x -> x.now(5), 5);
    SheafVotes x = Due.parish("farm 0 hands 1 thinks -9;farm 0 hands 1 thinks -9");
    Due.due("now(1)", x.now(1), 2);
    Due.due("now(2)", x.now(2), -18);
    Due.due("now(5): FARMS without DAYS", x.now(5), 0);
    x.change(1, 4, 1);
    Due.due("now(3): once", x.now(3), 2);
    x.change(1, 4, 0);
    Due.due("now(3): never", x.now(3), 0);
    x.change(0, 4, 9999);
    Due.due("now(3): 9999 times", x.now(3), 1);
  }

  private static final Twins.Making THREE = Twins.texts("farm 40 thinks 2;farm 20;farm 8 thinks - 1");

  private static SheafVotes threeBehind(int n) {
    SheafVotes x = Twins.made(THREE);
    if (n > 0) {
      x.go(n);
    }
    return x;
  }

  private static void holderAheadLeans() {
    for (int n : new int[] {0, 1, 2, 3, 4, 59, 60}) {
      SheafVotes then = threeBehind(n);
      Due.sentence(14, "LAST behind n (0 to 60) YEARS, as a set. BEYOND.");
      Twins.asked("holder(" + n + ")", THREE, x -> x.holder(n), then.last());
      Due.sentence(15, "HANDS (what 2), OPINION (3), HAD (4) of a FARM behind n (0 to 60) YEARS. BEYOND.");
      for (int i = 0; i < 9; i++) {
        int farm = i / 3;
        int what = 2 + i % 3;
        Twins.asked("ahead(" + farm + ", " + what + ", " + n + ")", THREE, x -> x.ahead(farm, what, n), then.of(farm, what));
      }
      Due.sentence(16, "LEAN behind n (0 to 60) YEARS. BEYOND.");
      Twins.asked("leans(" + n + ")", THREE, x -> x.leans(n), then.lean());
    }
    Due.sentence(14, "LAST behind n (0 to 60) YEARS, as a set. BEYOND.");
    Twins.range("holder(n)", 0, 60, (x, n) -> x.holder(n));
    Twins.asked("holder(60) without FARMS", Twins::empty, x -> x.holder(60), 0);
    Due.sentence(15, "HANDS (what 2), OPINION (3), HAD (4) of a FARM behind n (0 to 60) YEARS. BEYOND.");
    Twins.range("ahead(0, 2, n)", 0, 60, (x, n) -> x.ahead(0, 2, n));
    Twins.range("ahead(0, what, 1)", 2, 4, (x, what) -> x.ahead(0, what, 1));
    Twins.range("ahead(farm, 4, 1), 4 FARMS", 0, 3, (x, farm) -> x.ahead(farm, 4, 1));
    Twins.range("ahead(farm, 4, 1), 8 FARMS", Twins::full, 0, 7, (x, farm) -> x.ahead(farm, 4, 1));
    Twins.refused("ahead(0, 2, 0) without FARMS", Twins::empty, x -> x.ahead(0, 2, 0), Due.BEYOND);
    Due.sentence(16, "LEAN behind n (0 to 60) YEARS. BEYOND.");
    Twins.range("leans(n)", 0, 60, (x, n) -> x.leans(n));
    Twins.asked("leans(60) without FARMS", Twins::empty, x -> x.leans(60), 0);
  }

  private static void when() {
    Due.sentence(17, "Behind how many YEARS (0 to 60, the fewest) a FARM is LAST. BEYOND. NONE.");
    Twins.range("when(farm), 4 FARMS", 0, 3, (x, farm) -> x.when(farm));
    Twins.range("when(farm), 8 FARMS", Twins::full, 0, 7, (x, farm) -> x.when(farm));
    Twins.refused("when(0) without FARMS", Twins::empty, x -> x.when(0), Due.BEYOND);
    // LAST behind 0, 1, 2, 3, 4 YEARS: 1, 1, 1, 4, 3.
    Twins.asked("when(0): now", THREE, x -> x.when(0), 0);
    Twins.asked("when(1)", THREE, x -> x.when(1), 4);
    Twins.asked("when(2)", THREE, x -> x.when(2), 3);
    Twins.refused("never", Twins.texts("farm 999;farm 0"), x -> x.when(1), Due.NONE);
    Twins.Making sixty = Twins.texts("lame 909 hands 15;lame 913 hands 18;machine 902 hands 4;farm 929 hands 19;"
        + "old 943 hands 19;deep 944 hands 19;wet 62");
    Twins.asked("behind 60", sixty, x -> x.when(3), 60);
    Twins.Making later = Twins.texts("old 866 hands 10;lame 854 hands 1;old 835 hands 2;machine 877 hands 20;"
        + "old 824 hands 1;farm 796 hands 9;wet 35");
    Twins.refused("behind 61", later, x -> x.when(5), Due.NONE);
    Twins.asked("behind 61, a YEAR later", x -> {
      later.of(x);
      x.go(1);
    }, x -> x.when(5), 60);
  }

  private static void tie() {
    Due.sentence(18, "Behind how many YEARS (0 to 60, the fewest) more than one is LAST. NONE.");
    Twins.asked("of three", THREE, x -> x.tie(), 4);
    Twins.asked("now", Twins.texts("farm 8;farm 1"), x -> x.tie(), 0);
    Twins.refused("no FARMS", Twins::empty, x -> x.tie(), Due.NONE);
    Twins.refused("one FARM", x -> x.farm(0, 8), x -> x.tie(), Due.NONE);
    Twins.refused("never", Twins.texts("farm 999;farm 0"), x -> x.tie(), Due.NONE);
    Twins.asked("behind 60", Twins.texts("old 866 hands 10;lame 854 hands 1;old 835 hands 2;machine 877 hands 20;"
        + "old 824 hands 1;farm 796 hands 9;wet 35"), x -> x.tie(), 60);
    Twins.Making later = x -> {
      Due.read(x, "sly 753 hands 17;machine 737 hands 17;old 712 hands 16;deep 743 hands 18");
      Due.read(x, "lame 727 hands 12;lame 697 hands 19;farm 738 hands 17;old 744 hands 11;wet 60");
    };
    Twins.refused("behind 61", later, x -> x.tie(), Due.NONE);
    Twins.asked("behind 61, a YEAR later", x -> {
      later.of(x);
      x.go(1);
    }, x -> x.tie(), 60);
  }

  private static void turns() {
    Due.sentence(19, "Behind how many YEARS (0 to 60, the fewest) the ANSWER to a question is otherwise than now. BEYOND. NONE.");
    Twins.range("turns(q)", -99, 99, (x, q) -> x.turns(q));
    Twins.range("turns(q) without FARMS", Twins::empty, -99, 99, (x, q) -> x.turns(q));
    // It leans 5, 7, 9, 11, 23.
    int[][] q = {{6, 1}, {7, 1}, {8, 2}, {9, 2}, {10, 3}, {11, 3}, {12, 4}, {23, 4}};
    for (int[] asked : q) {
      Twins.asked("turns(" + asked[0] + ")", THREE, x -> x.turns(asked[0]), asked[1]);
    }
    Twins.refused("turns(5)", THREE, x -> x.turns(5), Due.NONE);
    Twins.refused("turns(-99)", THREE, x -> x.turns(-99), Due.NONE);
    Twins.refused("turns(0) without FARMS", Twins::empty, x -> x.turns(0), Due.NONE);
    // From 1 to 0 as well: the opinion falls from -1 on.
    Twins.Making falls = Twins.texts("machine 1;farm 0 thinks -1");
    Twins.refused("turns(0): it is 0 already", falls, x -> x.turns(0), Due.NONE);
    Twins.asked("turns(-1)", falls, x -> x.turns(-1), 1);
    Twins.asked("turns(-8)", falls, x -> x.turns(-8), 8);
    Twins.refused("turns(-9): it never falls below", falls, x -> x.turns(-9), Due.NONE);
    Twins.asked("behind 60", Twins.texts("farm 325 hands 15 thinks 4;lame 933 hands 11 thinks 5;"
        + "sly 742 hands 8 thinks 8;wet 29"), x -> x.turns(20), 60);
    Twins.Making later = Twins.texts("lame 946 hands 13 thinks 7;lame 53 hands 11 thinks 0;"
        + "sly 698 hands 7 thinks 4;old 712 hands 13 thinks -5;wet 54");
    Twins.refused("behind 61", later, x -> x.turns(20), Due.NONE);
    Twins.asked("behind 61, a YEAR later", x -> {
      later.of(x);
      x.go(1);
    }, x -> x.turns(20), 60);
  }

  public static void main(String[] args) {
    yearOfHands();
    yearOfOpinions();
    yearOfYears();
    sets();
    leanAndAnswer();
    go();
    now();
    holderAheadLeans();
    when();
    tie();
    turns();
    Due.end();
  }
}
