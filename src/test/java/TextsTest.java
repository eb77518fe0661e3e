/** Promises 35 to 37. */
public final class TextsTest {
  private static void feed() {
    SheafVotes x = new SheafVotes();
    Due.due("feed: 3 lowest, the highest first", x.feed('x' << 24 | 'w' << 16 | 'e' << 8 | 't', 3), 3);
    Due.due("feed: 1", x.feed(0x20202039, 1), 4);
    Due.due("text()", x.text(), 1);
    Due.due("WET", x.weather(0, 0), 9);
    int[] wrong = {0, 5, -1, Integer.MIN_VALUE, Integer.MAX_VALUE};
    for (int n : wrong) {
      Due.due("feed(0, " + n + ")", x.feed(0, n), Due.BEYOND);
    }
    for (int i = 1; i <= 29; i++) {
      Due.due("feed: 4", x.feed(0, 4), 4 * i);
    }
    Due.due("feed: 118", x.feed(0, 2), 118);
    Due.due("feed: 121 is FULL", x.feed(0, 3), Due.FULL);
    Due.due("feed: BEYOND ahead of FULL", x.feed(0, 5), Due.BEYOND);
    Due.due("feed: it got nothing", x.count(5), 118);
    Due.due("feed: 120", x.feed(0, 2), 120);
    Due.due("feed: FULL", x.feed(0, 1), Due.FULL);
    Due.due("wipe()", x.wipe(), 120);
    Due.due("wipe() again", x.wipe(), 0);
    Due.due("count(5)", x.count(5), 0);
  }

  private static void items() {
    SheafVotes x = new SheafVotes();
    Due.due("all", Due.read(x, "farm1;lame 2hands20;proud 3 thinks-9;sly 4 hands 1 thinks - 0;deep 005"), 5);
    Due.due("the rest", Due.read(x, "  machine   999 thinks 9 ; old 0 hands 007;wet 99;mice 098;rain0"), 5);
    int[][] farms = {{0, 1, 4, 0}, {1, 2, 20, 0}, {2, 3, 4, -9}, {3, 4, 1, 0}, {4, 5, 4, 0}, {5, 999, 4, 9}, {6, 0, 7, 0}};
    for (int i = 0; i < farms.length; i++) {
      for (int what = 0; what < 4; what++) {
        Due.due("of(" + i + ", " + what + ")", x.of(i, what), farms[i][what]);
      }
      Due.due("of(" + i + ", 4)", x.of(i, 4), 0);
    }
    Due.due("WET", x.weather(0, 0), 99);
    Due.due("MICE", x.weather(1, 0), 98);
    Due.due("RAIN", x.weather(2, 0), 0);
    Due.due("item by item: the later one counts", Due.read(x, "wet 5;wet 7;rain 3"), 3);
    Due.due("WET", x.weather(0, 0), 7);
    Due.due("THE TAPE is empty", x.count(5), 0);
    Due.due("no finding", x.status(-1), 0);
  }

  private static void fault(String text, int fault) {
    SheafVotes x = Due.parish("farm 7;wet 1;mice 2;rain 3");
    Due.due("text() of '" + text + "'", Due.read(x, text), -1 - fault);
    Due.due("'" + text + "': THE TAPE is empty", x.count(5), 0);
    Due.due("'" + text + "': no farm came", x.count(1), 1);
    Due.due("'" + text + "': WET", x.weather(0, 0), 1);
    Due.due("'" + text + "': MICE", x.weather(1, 0), 2);
    Due.due("'" + text + "': RAIN", x.weather(2, 0), 3);
    Due.due("'" + text + "': HANDS", x.of(0, 2), 4);
    Due.due("'" + text + "': no finding", x.status(-1), 0);
  }

  private static void faults() {
    fault("", 0);
    fault("   ", 3);
    fault("farm", 4);
    fault("farm ", 5);
    fault("farm;", 4);
    fault("farm -1", 5);
    fault("farm 1000", 5);
    fault("farm 00000000000000001000", 5);
    fault("farm 4294967297", 5);
    fault("farm 99999999999999999999999999999999", 5);
    fault("farm 1 2", 7);
    fault("farm 1 hand 2", 7);
    fault("farm 1 hands", 12);
    fault("farm 1 hands 0", 13);
    fault("farm 1 hands 21", 13);
    fault("farm 1 hands thinks 2", 13);
    fault("farm 1 hands 2 hands 3", 15);
    fault("farm 1 thinks", 13);
    fault("farm 1 thinks 10", 14);
    fault("farm 1 thinks -", 15);
    fault("farm 1 thinks - 10", 16);
    fault("farm 1 thinks --1", 15);
    fault("farm 1 thinks 2 hands 3", 16);
    fault("farm 1 thinks 2 thinks 3", 16);
    fault("farm 1 thinks *1", 14);
    fault("farm 1 thinks ;1", 14);
    fault("farm 1 thinks wet", 14);
    fault("farm wet", 5);
    fault("wet five", 4);
    fault("farm 1 - 2", 7);
    fault("farm 1;", 7);
    fault("farm 1; ", 8);
    fault("farm 1;;farm 2", 7);
    fault(";farm 1", 0);
    fault("farm 1 farm 2", 7);
    fault("farm 1;hands 2", 7);
    fault("farmlame 1", 0);
    fault("far 1", 0);
    fault("farms 1", 0);
    fault("garm 1", 0);
    fault("farmz 1", 0);
    fault("wet 5z", 5);
    fault("azwet 5", 0);
    fault("Farm 1", 0);
    fault("farM 1", 0);
    fault("1", 0);
    fault("-", 0);
    fault(" wet", 4);
    fault("wet 100", 4);
    fault("wet -1", 4);
    fault("wet 5 hands 1", 6);
    fault("wet 5 thinks 1", 6);
    fault("wet 5;mice 6;rain 100", 18);
    fault("wet 5,", 5);
    fault("wet 5\t", 5);
    fault("wet\n5", 3);
    fault("wet 5 \u0000", 6);
    fault("wet 5\u00e9", 5);
    fault("wet 5`", 5);
    fault("wet 5{", 5);
    fault("wet 5/", 5);
    fault("wet 5:", 5);
    fault("wet @", 4);
  }

  private static void ninth() {
    SheafVotes x = new SheafVotes();
    Due.due("8", Due.read(x, "sly 1;sly 1;sly 1;sly 1;sly 1;sly 1;sly 1;sly 1"), 8);
    Due.due("a 9th", Due.read(x, "wet 3; old 1"), -1 - 7);
    Due.due("a 9th, whatever comes behind", Due.read(x, "old"), -1);
    Due.due("another WORD", Due.read(x, "wet 3;olds 1"), -1 - 6);
    Due.due("weather still", Due.read(x, "wet 3"), 1);
    SheafVotes y = Due.parish("farm 1;farm 1;farm 1;farm 1;farm 1;farm 1");
    Due.due("a 9th in the text", Due.read(y, "farm 1;farm 1;farm 1"), -1 - 14);
    Due.due("none came", y.count(1), 6);
    Due.due("two more", Due.read(y, "farm 1;farm 1"), 2);
  }

  private static void longOnes() {
    SheafVotes x = new SheafVotes();
    String most = "wet 1;wet 1;wet 1;wet 1;wet 1;wet 1;wet 1;wet 1;wet 1;wet 1;";
    Due.due("120 bytes that end too early", Due.read(x, most + most), -1 - 120);
    Due.due("119 bytes", Due.read(x, most + most.substring(0, 59)), 20);
    Due.due("zeros", Due.read(x, "farm " + "0".repeat(112) + "999"), 1);
    Due.due("FIELD", x.of(0, 1), 999);
    Due.due("text(): empty", x.text(), -1);
  }

  public static void main(String[] args) {
    feed();
    items();
    faults();
    ninth();
    longOnes();
    Due.end();
  }
}
