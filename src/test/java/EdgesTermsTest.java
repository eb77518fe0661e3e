/** Edges that the document's Terms name ahead of and in point 1: findings, weather, farms, reaping, who is last, the lean. */
public final class EdgesTermsTest {
  private static final int FARM = 0;
  private static final int LAME = 1;
  private static final int PROUD = 2;
  private static final int SLY = 3;
  private static final int DEEP = 4;
  private static final int MACHINE = 5;
  private static final int OLD = 6;

  private static SheafVotes one(int kind, int field, int hands, int wet) {
    SheafVotes x = new SheafVotes();
    x.farm(kind, field);
    x.change(0, 2, hands);
    x.weather(0, wet);
    return x;
  }

  private static void reaps(int kind, int field, int hands, int wet, int due) {
    Due.due("REAPS of kind " + kind + ", " + field + " left, HANDS " + hands + ", WET " + wet,
        one(kind, field, hands, wet).of(0, 5), due);
  }

  private static void days(int kind, int field, int hands, int wet, int due) {
    Due.due("DAYS of kind " + kind + ", FIELD " + field + ", HANDS " + hands + ", WET " + wet,
        one(kind, field, hands, wet).of(0, 6), due);
  }

  private static void findings() {
    Due.sentence(0, "FINDINGS are answers below -1000000: LOW is -1000001; LOW BEYOND, LOW - 1 FULL, LOW - 2 KIND,"
        + " LOW - 3 NONE, LOW - 4 STATE, LOW - 5 MISSING, LOW - 6 SIZE (in longs, too).");
    SheafVotes x = new SheafVotes();
    Due.due("BEYOND", x.farm(7, 0), -1000001);
    for (int i = 0; i < 8; i++) {
      x.farm(0, 0);
    }
    x.hold(0, 0);
    Due.due("FULL", x.farm(0, 0), -1000002);
    Due.due("KIND", x.as(0, 5), -1000003);
    Due.due("NONE", x.undo(), -1000004);
    Due.due("MISSING", x.as(1, 5), -1000006);
    Due.due("SIZE", x.sheet(0, 8, -1), -1000007);
    Due.due("BEYOND in a long", x.odds(13, 0), -1000001L);
    int[] counts = {2, 1, 1, 1, 0, 1, 1};
    for (int which = 0; which < 7; which++) {
      Due.due("status(" + which + ")", x.status(which), counts[which]);
    }
    // The end of all years is farther than 512 calls, but the program keeps to it.
    SheafVotes late = Due.late(99999);
    Due.due("STATE", late.go(1), -1000005);
    Due.due("status(4)", late.status(4), 1);
  }

  /** Calls that break two rules at once: the one that is told first counts. */
  private static void order() {
    Due.sentence(0, "Each act tells its findings in the order in which they are asked (that of its words);"
        + " one that answers a finding changes nothing but status().");
    Twins.refused("farm: BEYOND, then FULL", Twins::full, x -> x.farm(7, 0), Due.BEYOND);
    Twins.refused("farm: BEYOND, then FULL", Twins::full, x -> x.farm(0, 1000), Due.BEYOND);
    Twins.refused("farm: FULL", Twins::full, x -> x.farm(6, 999), Due.FULL);
    Twins.refused("feed: BEYOND, then FULL", Twins::full, x -> x.feed(0, 5), Due.BEYOND);
    Twins.refused("feed: FULL", Twins::full, x -> x.feed(0, 4), Due.FULL);
    Twins.refused("turns: BEYOND, then NONE", Twins::empty, x -> x.turns(100), Due.BEYOND);
    Twins.refused("turns: NONE", Twins::empty, x -> x.turns(99), Due.NONE);
    Twins.refused("tell: BEYOND, then NONE", Twins::empty, x -> x.tell(99, 10), Due.BEYOND);
    Twins.refused("tell: NONE", Twins::empty, x -> x.tell(99, 9), Due.NONE);
    Twins.refused("miceFor: BEYOND, then NONE", Twins::empty, x -> x.miceFor(99, 2), Due.BEYOND);
    Twins.refused("miceFor: NONE", Twins::empty, x -> x.miceFor(99, 1), Due.NONE);
    Twins.refused("cut: BEYOND, then NONE", Twins::empty, x -> x.cut(1, 21), Due.BEYOND);
    Twins.refused("cut: NONE", Twins::empty, x -> x.cut(1, 20), Due.NONE);
    Twins.refused("as: BEYOND, then MISSING", x -> x.as(10, 5), Due.BEYOND);
    Twins.refused("as: BEYOND, then MISSING", x -> x.as(1, 7), Due.BEYOND);
    Twins.refused("as: MISSING, then KIND", x -> x.as(1, 5), Due.MISSING);
    Twins.refused("as: BEYOND, then KIND", x -> x.as(2, 7), Due.BEYOND);
    Twins.refused("as: KIND", x -> x.as(2, 5), Due.KIND);
    Twins.refused("sheet: BEYOND, then SIZE", x -> x.sheet(4, 8, -1), Due.BEYOND);
    Twins.refused("sheet: BEYOND, then SIZE", x -> x.sheet(0, 9, -1), Due.BEYOND);
    Twins.refused("sheet: SIZE", x -> x.sheet(0, 8, -1), Due.SIZE);
    Twins.refused("write: BEYOND, then MISSING", x -> x.write(4, 0, 0), Due.BEYOND);
    Twins.refused("write: MISSING, then BEYOND", x -> x.write(3, -1, 0), Due.MISSING);
    Twins.refused("copy: BEYOND, then MISSING", x -> x.copy(3, 0, 4, 0, 1), Due.BEYOND);
    Twins.refused("copy: BEYOND, then MISSING", x -> x.copy(4, 0, 3, 0, 1), Due.BEYOND);
    Twins.refused("copy: MISSING, then BEYOND", x -> x.copy(3, 0, 0, -1, 1), Due.MISSING);
    Twins.refused("copy: KIND, then BEYOND", x -> x.copy(0, -1, 1, 0, 1), Due.KIND);
    Twins.refused("fits: BEYOND, then MISSING", x -> x.fits(4, 9), Due.BEYOND);
    Twins.refused("fits: MISSING, then BEYOND", x -> x.fits(3, 9), Due.MISSING);
    Twins.refused("fits: BEYOND", x -> x.fits(2, 9), Due.BEYOND);
    Twins.refused("thinks: BEYOND, then MISSING", x -> x.thinks(4, 9), Due.BEYOND);
    Twins.refused("thinks: MISSING, then BEYOND", x -> x.thinks(3, 9), Due.MISSING);
    Twins.refused("thinks: BEYOND, then NONE", x -> x.thinks(2, 9), Due.BEYOND);
    Twins.refused("thinks: NONE", x -> x.thinks(2, 0), Due.NONE);
    SheafVotes late = Due.late(99999);
    Due.due("go: BEYOND, then STATE", late.go(61), Due.BEYOND);
    Due.due("go: STATE", late.go(60), Due.STATE);
    Due.due("weathers: BEYOND, then STATE", late.weathers(21), Due.BEYOND);
    Due.due("weathers: STATE", late.weathers(20), Due.STATE);
  }

  private static void quotientsAndSets() {
    Due.sentence(0, "Quotients are cut (towards 0).");
    int[] wet = {0, 9, 10, 11, 19, 20, 89, 90, 99};
    int[] reaped = {40, 40, 39, 39, 39, 38, 32, 31, 31};
    for (int i = 0; i < wet.length; i++) {
      reaps(FARM, 999, 20, wet[i], reaped[i]);
    }
    Due.sentence(0, "Sets are told as bits; of several that would do the least number counts, where nothing else is told.");
    SheafVotes x = Due.parish("farm 1;farm 1;farm 1;farm 1;farm 1;farm 1;farm 1;farm 1");
    Due.due("8 are last", x.last(), 255);
    Due.due("voice: all are alike", x.voice(), 0);
    Due.due("lend: all would do", x.lend(7), 1);
    Due.due("wetFor: all would do", x.wetFor(7), 0);
    Due.due("miceFor: all would do", x.miceFor(0, 1), 0);
    x.change(0, 1, 0);
    Due.due("the first one is not last", x.last(), 254);
    x.change(7, 1, 0);
    Due.due("nor the 8th", x.last(), 126);
    Due.due("both are first", x.first(), 129);
    Due.due("and next", x.next(), 129);
  }

  private static void weather() {
    Due.sentence(0, "WEATHER: WET (0 to 99; 0 at first), MICE (0 to 99; 0 at first), RAIN (0 to 99; 0 at first).");
    for (int what = 0; what < 3; what++) {
      int w = what;
      Due.due("at first, what " + what, new SheafVotes().weather(what, 5), 0);
      Twins.range("weather(" + what + ", v)", 0, 99, (x, v) -> x.weather(w, v));
      for (int v : new int[] {0, 1, 98, 99}) {
        SheafVotes x = new SheafVotes();
        x.weather(what, v);
        Due.due("weather(" + what + ", " + v + ") is so", x.weather(what, 0), v);
      }
    }
  }

  private static void farms() {
    Due.sentence(0, "FARMS 0, 1, .. (at most 8), of KINDS: 0 FARM; 1 LAME, 2 PROUD, 5 MACHINE under FARM; 3 SLY under PROUD;"
        + " 4 DEEP under SLY; 6 OLD under LAME; each with a FIELD (0 to 999 sheaves), HANDS (1 to 20; 4 at first),"
        + " an OPINION (-9 to 9; 0 at first), HAD (how often it had the sheaf; 0 to 9999; 0 at first).");
    SheafVotes x = new SheafVotes();
    for (int i = 0; i < 8; i++) {
      Due.due("farm " + i, x.farm(i % 7, i), i);
    }
    Due.due("the 9th farm", x.farm(0, 0), Due.FULL);
    Due.due("8 farms", x.count(1), 8);
    Due.due("farm 7 is there", x.of(7, 1), 7);
    Due.due("farm 8 isn't", x.of(8, 1), Due.BEYOND);
    int[] first = {FARM, 0, 4, 0, 0};
    for (int what = 0; what < 5; what++) {
      Due.due("at first, what " + what, x.of(0, what), first[what]);
    }
    int[] least = {0, 0, 1, -9, 0};
    int[] most = {6, 999, 20, 9, 9999};
    for (int what = 0; what < 5; what++) {
      int w = what;
      Twins.range("change(1, " + what + ", v)", least[what], most[what], (y, v) -> y.change(1, w, v));
      for (int v : new int[] {least[what], least[what] + 1, most[what] - 1, most[what]}) {
        x.change(7, what, v);
        Due.due("what " + what + " of the 8th is " + v, x.of(7, what), v);
      }
    }
    // Which kinds each one is of, as a set.
    int[] of = {1, 1 + 2, 1 + 4, 1 + 4 + 8, 1 + 4 + 8 + 16, 1 + 32, 1 + 2 + 64};
    for (int kind = 0; kind < 7; kind++) {
      x.change(0, 0, kind);
      x.hold(0, 0);
      for (int asked = 0; asked < 7; asked++) {
        Due.due("kind " + kind + " as " + asked, x.as(0, asked), (of[kind] >> asked & 1) == 1 ? 0 : Due.KIND);
      }
    }
  }

  private static void reapsOfFarmLameOld() {
    Due.sentence(0, "REAPS (sheaves on a DAY, of so many that are left in its FIELD; 1 at least):"
        + " FARM: twice HANDS, less a tenth (cut) of WET.");
    reaps(FARM, 50, 1, 0, 2);
    reaps(FARM, 50, 1, 9, 2);
    reaps(FARM, 50, 1, 10, 1);
    reaps(FARM, 50, 1, 19, 1);
    reaps(FARM, 50, 1, 20, 1);
    reaps(FARM, 50, 1, 99, 1);
    reaps(FARM, 50, 4, 69, 2);
    reaps(FARM, 50, 4, 70, 1);
    reaps(FARM, 50, 4, 80, 1);
    reaps(FARM, 50, 4, 90, 1);
    reaps(FARM, 50, 5, 89, 2);
    reaps(FARM, 50, 5, 99, 1);
    reaps(FARM, 50, 20, 0, 40);
    reaps(FARM, 0, 4, 0, 8);
    reaps(FARM, 1, 4, 0, 8);
    Due.sentence(0, "LAME: half (cut) of that of a FARM.");
    reaps(LAME, 50, 2, 0, 2);
    reaps(LAME, 50, 2, 10, 1);
    reaps(LAME, 50, 2, 20, 1);
    reaps(LAME, 50, 2, 30, 1);
    reaps(LAME, 50, 4, 9, 4);
    reaps(LAME, 50, 4, 10, 3);
    reaps(LAME, 50, 4, 20, 3);
    reaps(LAME, 50, 1, 0, 1);
    reaps(LAME, 50, 1, 10, 1);
    reaps(LAME, 50, 1, 99, 1);
    reaps(LAME, 50, 20, 0, 20);
    Due.sentence(0, "OLD: as LAME, less 1.");
    reaps(OLD, 50, 3, 0, 2);
    reaps(OLD, 50, 2, 0, 1);
    reaps(OLD, 50, 2, 10, 1);
    reaps(OLD, 50, 1, 0, 1);
    reaps(OLD, 50, 1, 99, 1);
    reaps(OLD, 50, 4, 10, 2);
    reaps(OLD, 50, 20, 0, 19);
  }

  private static void reapsOfTheOthers() {
    Due.sentence(0, "PROUD: as a FARM, and 3.");
    reaps(PROUD, 50, 1, 0, 5);
    reaps(PROUD, 50, 20, 0, 43);
    Due.sentence(0, "(What a KIND takes from the one above is as that one tells it, 1 at least, too.)");
    reaps(PROUD, 50, 1, 10, 4);
    reaps(PROUD, 50, 1, 20, 4);
    reaps(PROUD, 50, 1, 30, 4);
    reaps(PROUD, 50, 1, 99, 4);
    reaps(SLY, 20, 1, 99, 2);
    reaps(SLY, 21, 1, 99, 4);
    reaps(DEEP, 20, 1, 99, 2);
    Due.sentence(0, "SLY: as PROUD, but half (cut) of it, if 20 or fewer are left.");
    reaps(SLY, 22, 4, 0, 11);
    reaps(SLY, 21, 4, 0, 11);
    reaps(SLY, 20, 4, 0, 5);
    reaps(SLY, 19, 4, 0, 5);
    reaps(SLY, 5, 4, 0, 5);
    reaps(SLY, 0, 4, 0, 5);
    reaps(SLY, 20, 4, 10, 5);
    reaps(SLY, 20, 4, 20, 4);
    Due.sentence(0, "DEEP: as SLY, but 1, if 5 or fewer are left.");
    reaps(DEEP, 21, 4, 0, 11);
    reaps(DEEP, 20, 4, 0, 5);
    reaps(DEEP, 7, 4, 0, 5);
    reaps(DEEP, 6, 4, 0, 5);
    reaps(DEEP, 5, 4, 0, 1);
    reaps(DEEP, 4, 4, 0, 1);
    reaps(DEEP, 0, 20, 0, 1);
    Due.sentence(0, "MACHINE: 30, if WET is below 50, else 2.");
    for (int hands : new int[] {1, 20}) {
      reaps(MACHINE, 999, hands, 0, 30);
      reaps(MACHINE, 999, hands, 48, 30);
      reaps(MACHINE, 999, hands, 49, 30);
      reaps(MACHINE, 999, hands, 50, 2);
      reaps(MACHINE, 999, hands, 51, 2);
      reaps(MACHINE, 999, hands, 99, 2);
    }
  }

  private static void daysOfEach() {
    Due.sentence(0, "DAYS of a FARM: on how many DAYS it reaps, one behind the other, till nothing of its FIELD is left"
        + " (0, if there is nothing).");
    int[] fields = {0, 1, 7, 8, 9, 15, 16, 17, 992, 993, 999};
    int[] byEight = {0, 1, 1, 1, 2, 2, 2, 3, 124, 125, 125};
    for (int i = 0; i < fields.length; i++) {
      days(FARM, fields[i], 4, 0, byEight[i]);
      days(LAME, fields[i], 8, 0, byEight[i]);
    }
    for (int kind = 0; kind < 7; kind++) {
      days(kind, 0, 4, 0, 0);
      days(kind, 0, 1, 99, 0);
      days(kind, 1, 4, 0, 1);
      days(kind, 1, 1, 99, 1);
    }
    days(FARM, 998, 1, 99, 998);
    days(FARM, 999, 1, 99, 999);
    days(OLD, 999, 1, 0, 999);
    // By 11, and by 5 from 20 on.
    int[][] sly = {{19, 4}, {20, 4}, {21, 3}, {22, 4}, {31, 5}, {32, 4}, {33, 5}};
    for (int[] s : sly) {
      days(SLY, s[0], 4, 0, s[1]);
    }
    // The same, and one by one from 5 on.
    int[][] deep = {{4, 4}, {5, 5}, {6, 2}, {10, 6}, {11, 3}, {20, 8}, {21, 7}, {22, 4}};
    for (int[] d : deep) {
      days(DEEP, d[0], 4, 0, d[1]);
    }
    int[][] machine = {{29, 0, 1}, {30, 49, 1}, {31, 49, 2}, {60, 0, 2}, {61, 0, 3}, {1, 50, 1}, {2, 50, 1}, {3, 50, 2}};
    for (int[] m : machine) {
      days(MACHINE, m[0], 4, m[1], m[2]);
    }
  }

  private static void lastAndFirst() {
    // 40 by 8 are 5 days; the other one's are 4, 5, 5, 6.
    int[] fields = {32, 33, 40, 41};
    int[] last = {1, 3, 3, 2};
    int[] first = {2, 3, 3, 1};
    for (int i = 0; i < fields.length; i++) {
      SheafVotes x = Due.parish("farm 40;farm " + fields[i]);
      Due.sentence(0, "LAST: FARMS with most DAYS (all of several; none without FARMS).");
      Due.due("40 and " + fields[i] + ": last()", x.last(), last[i]);
      Due.sentence(0, "FIRST: those with fewest.");
      Due.due("40 and " + fields[i] + ": first()", x.first(), first[i]);
    }
    Due.due("without FARMS: first()", new SheafVotes().first(), 0);
    Due.due("one FARM: first()", Due.parish("farm 0").first(), 1);
    Due.sentence(0, "LAST: FARMS with most DAYS (all of several; none without FARMS).");
    Due.due("without FARMS: last()", new SheafVotes().last(), 0);
    Due.due("one FARM without DAYS: last()", Due.parish("farm 0").last(), 1);
    Due.due("two without DAYS: last()", Due.parish("farm 0;sly 0").last(), 3);
    Due.due("8: last()", Due.parish("farm 1;lame 1;proud 2;sly 1;deep 1;machine 30;old 1;farm 8").last(), 255);
  }

  private static void tells() {
    Due.sentence(0, "TELLS (how much its OPINION counts): FARM: 1. LAME: as a FARM, and 1. OLD: twice as LAME."
        + " PROUD: as a FARM, and 2. SLY: 0 less as PROUD.");
    int[] tells = {1, 2, 3, -3, -3, 0, 4};
    for (int kind = 0; kind < 7; kind++) {
      Due.due("TELLS of kind " + kind, one(kind, 5, 4, 0).of(0, 7), tells[kind]);
      SheafVotes had = one(kind, 5, 4, 0);
      had.change(0, 4, 3);
      Due.due("TELLS of kind " + kind + " that HAD it", had.of(0, 7), kind == DEEP ? 0 : tells[kind]);
    }
    Due.sentence(0, "DEEP: as SLY, and 1 for each time it HAD the sheaf (9 at most).");
    int[][] deep = {{0, -3}, {1, -2}, {2, -1}, {3, 0}, {4, 1}, {8, 5}, {9, 6}, {10, 6}, {9998, 6}, {9999, 6}};
    for (int[] d : deep) {
      SheafVotes x = one(DEEP, 5, 4, 0);
      x.change(0, 4, d[0]);
      Due.due("TELLS of one that HAD it " + d[0] + " times", x.of(0, 7), d[1]);
    }
    Due.sentence(0, "MACHINE: 0.");
    SheafVotes machine = one(MACHINE, 5, 4, 0);
    machine.change(0, 3, 9);
    machine.change(0, 4, 9);
    Due.due("TELLS of a MACHINE", machine.of(0, 7), 0);
    Due.due("LEAN of a MACHINE", machine.lean(), 0);
  }

  private static void lean() {
    Due.sentence(0, "LEAN: OPINION times what it TELLS, of all FARMS together, of those that are LAST three times;"
        + " then a tenth of MICE (cut) nearer to 0 (to it, if that is as near); then, if RAIN is 60 or more, 0 less that.");
    int[] fields = {32, 33, 40, 41};
    int[] leans = {3 * 2 + 5, 3 * 2 + 3 * 5, 3 * 2 + 3 * 5, 2 + 3 * 5};
    for (int i = 0; i < fields.length; i++) {
      Due.due("40 and " + fields[i], Due.parish("farm 40 thinks 2;farm " + fields[i] + " thinks 5").lean(), leans[i]);
    }
    // A lean of 3: MICE take 0, 0, 1, 1, 2, 2, 3, 3, 4, 9 of it.
    int[] mice = {0, 9, 10, 19, 20, 29, 30, 39, 40, 99};
    int[] ofThree = {3, 3, 2, 2, 1, 1, 0, 0, 0, 0};
    int[] rain = {0, 58, 59, 60, 61, 99};
    for (int sign = -1; sign <= 1; sign += 2) {
      SheafVotes x = Due.parish("farm 40 thinks " + (sign < 0 ? "-1" : "1"));
      for (int i = 0; i < mice.length; i++) {
        x.weather(1, mice[i]);
        for (int r : rain) {
          x.weather(2, r);
          Due.due(3 * sign + " with MICE " + mice[i] + ", RAIN " + r, x.lean(), (r >= 60 ? -sign : sign) * ofThree[i]);
        }
      }
    }
    int[][] ofNine = {{79, 2}, {80, 1}, {89, 1}, {90, 0}, {99, 0}};
    for (int[] n : ofNine) {
      SheafVotes x = Due.parish("farm 40 thinks -3;mice " + n[0]);
      Due.due("-9 with MICE " + n[0], x.lean(), -n[1]);
    }
    Due.due("10 with MICE 99", Due.parish("farm 40 thinks 3;farm 0 thinks 1;mice 99").lean(), 1);
    Due.due("without FARMS", Due.parish("mice 99;rain 99").lean(), 0);
    String most = "old 9 thinks 9;old 9 thinks 9;old 9 thinks 9;old 9 thinks 9";
    Due.due("the most there is without DEEP ones", Due.parish(most, most).lean(), 8 * 3 * 4 * 9);
  }

  private static void answers() {
    Due.sentence(0, "ANSWER to a question q (-99 to 99): 1, if LEAN is q or more, else 0.");
    SheafVotes x = Due.parish("farm 40 thinks 2");
    int[][] six = {{5, 1}, {6, 1}, {7, 0}, {-99, 1}, {-98, 1}, {98, 0}, {99, 0}};
    for (int[] q : six) {
      Due.due("LEAN 6: answer(" + q[0] + ")", x.answer(q[0]), q[1]);
    }
    int[][] leans = {{-33, -99}, {33, 99}};
    for (int[] l : leans) {
      // 3 * 9 + 2 * 3 are 33, and three of that LAST are 99.
      String sign = l[0] < 0 ? "-" : "";
      SheafVotes y = Due.parish("farm 8 thinks " + sign + "9;farm 8 thinks " + sign + "9;farm 8 thinks " + sign + "9",
          "farm 8 thinks " + sign + "6");
      Due.due("LEAN", y.lean(), l[1]);
      Due.due("LEAN " + l[1] + ": answer(-99)", y.answer(-99), 1);
      Due.due("LEAN " + l[1] + ": answer(-98)", y.answer(-98), l[1] > 0 ? 1 : 0);
      Due.due("LEAN " + l[1] + ": answer(99)", y.answer(99), l[1] > 0 ? 1 : 0);
      y.change(3, 3, l[1] > 0 ? 5 : -7);
      Due.due("LEAN is 3 less: answer(" + l[1] + ")", y.answer(l[1]), 0);
    }
    Twins.range("answer(q)", -99, 99, (y, q) -> y.answer(q));
  }

  public static void main(String[] args) {
    findings();
    order();
    quotientsAndSets();
    weather();
    farms();
    reapsOfFarmLameOld();
    reapsOfTheOthers();
    daysOfEach();
    lastAndFirst();
    tells();
    lean();
    answers();
    Due.end();
  }
}
