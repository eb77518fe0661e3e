/** Promises 20 to 24. */
public final class HandsTest {
  private static void mostAndFewest() {
    SheafVotes x = Due.parish("farm 40;farm 24");
    Due.due("mostHands(0)", x.mostHands(0), 9);
    Due.due("mostHands(1)", x.mostHands(1), 2);
    Due.due("fewestHands(0)", x.fewestHands(0), 7);
    Due.due("fewestHands(1)", x.fewestHands(1), 3);
    Due.due("nothing changed", x.count(3), 8);
    SheafVotes none = Due.parish("farm 40;farm 0;machine 999");
    Due.due("mostHands: never last", none.mostHands(1), Due.NONE);
    Due.due("fewestHands: never first", none.fewestHands(0), Due.NONE);
    Due.due("mostHands: a machine doesn't mind", none.mostHands(2), 20);
    Due.due("fewestHands: a field of nothing", none.fewestHands(1), 1);
    SheafVotes one = Due.parish("farm 40;farm 16");
    Due.due("mostHands: 1", one.mostHands(1), 1);
    SheafVotes edge = Due.parish("farm 2;farm 2 hands 1;farm 40 hands 20");
    Due.due("mostHands: with others", edge.mostHands(2), 20);
    Due.due("fewestHands: with others", edge.fewestHands(2), 20);
  }

  private static void lend() {
    SheafVotes x = Due.parish("farm 40;farm 40");
    Due.due("lend(0)", x.lend(0), 1);
    Due.due("lend(1)", x.lend(1), 8);
    Due.due("nothing changed", x.of(0, 2), 4);
    SheafVotes three = Due.parish("farm 8;farm 8;farm 16");
    Due.due("lend: it lends none itself", three.lend(2), 1);
    Due.due("lend: it lends one", three.lend(1), 8);
    // 12 by 6 are as many days as 16 by 10; by 4, with two lent, they would be more.
    SheafVotes byOne = Due.parish("farm 12;farm 16;machine 0 hands 20");
    Due.due("lend: one, not two", byOne.lend(1), 1);
    SheafVotes takesOne = Due.parish("machine 90;farm 31");
    Due.due("lend: 31 by 10 are 4 days", takesOne.lend(1), 1);
    Due.due("lend: only by 12 they would be 3", takesOne.lend(0), Due.NONE);
    takesOne.change(1, 1, 30);
    Due.due("lend: 30 by 10 are 3 days, by 8 are 4", takesOne.lend(0), 1);
    SheafVotes few = Due.parish("farm 40 hands 1;farm 40 hands 1");
    Due.due("lend: none has more than 1", few.lend(0), Due.NONE);
    SheafVotes many = Due.parish("farm 40 hands 20;farm 40 hands 20");
    Due.due("lend: none has less than 20", many.lend(0), Due.NONE);
    SheafVotes eight = Due.parish("machine 0;machine 0;machine 0;machine 0", "machine 0;machine 0;farm 14 hands 3;farm 20 hands 5");
    // 14 by 6 are 3 days, 20 by 10 are 2; 20 by 8 are 3. Only the 7th and 8th have more than 1.
    for (int i = 0; i < 6; i++) {
      eight.change(i, 2, 1);
    }
    Due.due("lend: 8th to 7th", eight.lend(7), 8 * 7);
    Due.due("lend: alone", Due.parish("farm 3").lend(0), Due.NONE);
  }

  private static void kinds() {
    SheafVotes x = Due.parish("farm 100;farm 100");
    Due.due("kinds(0)", x.kinds(0), 1 + 2 + 64);
    Due.due("kinds(1)", x.kinds(1), 1 + 2 + 64);
    Due.due("nothing changed", x.of(0, 0), 0);
    Due.due("kinds: alone", Due.parish("farm 0").kinds(0), 127);
    Due.due("kinds: never", Due.parish("farm 0;farm 1").kinds(0), 0);
    x.weather(0, 99);
    Due.due("kinds in the wet", x.kinds(0), 1 + 2 + 64);
    x.change(1, 1, 40);
    Due.due("kinds: against 40 days", x.kinds(0), 1 + 2 + 32 + 64);
    x.change(1, 1, 32);
    Due.due("kinds: against 32 days", x.kinds(0), 1 + 2 + 16 + 32 + 64);
  }

  private static void wetFor() {
    SheafVotes x = Due.parish("machine 60;farm 40;farm 0");
    Due.due("wetFor: 50", x.wetFor(0), 50);
    Due.due("wetFor: 0", x.wetFor(1), 0);
    Due.due("wetFor: never", x.wetFor(2), Due.NONE);
    x.weather(0, 77);
    Due.due("wetFor: whatever it is now", x.wetFor(0), 50);
    Due.due("nothing changed", x.weather(0, 77), 77);
    SheafVotes late = Due.parish("farm 10 hands 5;farm 1 hands 1");
    Due.due("wetFor: with the other one", late.wetFor(1), 0);
    // By tenths of WET 4, 5, 5, 6, 7, 8 days against 3, 4, 4, 5, 6, 8.
    SheafVotes tenth = Due.parish("farm 40 hands 5;farm 24");
    Due.due("wetFor: at a tenth", tenth.wetFor(1), 50);
  }

  private static void wrongOnes() {
    SheafVotes x = Due.parish("farm 40;farm 24");
    int[] wrong = {-1, 2, 8, Integer.MIN_VALUE, Integer.MAX_VALUE};
    for (int farm : wrong) {
      Due.due("mostHands(" + farm + ")", x.mostHands(farm), Due.BEYOND);
      Due.due("fewestHands(" + farm + ")", x.fewestHands(farm), Due.BEYOND);
      Due.due("lend(" + farm + ")", x.lend(farm), Due.BEYOND);
      Due.due("kinds(" + farm + ")", x.kinds(farm), Due.BEYOND);
      Due.due("wetFor(" + farm + ")", x.wetFor(farm), Due.BEYOND);
    }
    Due.due("each was counted", x.status(0), 25);
  }

  public static void main(String[] args) {
    mostAndFewest();
    lend();
    kinds();
    wetFor();
    wrongOnes();
    Due.end();
  }
}
