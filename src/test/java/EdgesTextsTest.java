/** Edges of the document's Terms, point 3 (texts), and of promises 35 to 37. */
public final class EdgesTextsTest {
  /** With some of everything, but an empty tape. */
  private static void wiped(SheafVotes x) {
    Twins.rich(x);
    x.wipe();
  }

  /** The text has a fault there: THE TAPE is empty then, and nothing else has changed. */
  private static void fault(String text, int place) {
    Twins.asked("'" + text + "'", EdgesTextsTest::wiped, x -> Due.read(x, text), -1 - place);
  }

  private static SheafVotes taken(String text, int items) {
    SheafVotes x = new SheafVotes();
    Due.due("'" + text + "'", Due.read(x, text), items);
    Due.due("'" + text + "': bytes then", x.count(5), 0);
    Due.due("'" + text + "': findings", x.status(-1), 0);
    return x;
  }

  private static void farm(String text, int kind, int field, int hands, int opinion) {
    SheafVotes x = taken(text, 1);
    int[] due = {kind, field, hands, opinion, 0};
    for (int what = 0; what < 5; what++) {
      Due.due("'" + text + "': of(0, " + what + ")", x.of(0, what), due[what]);
    }
    Due.due("'" + text + "': FARMS", x.count(1), 1);
  }

  private static String blanks(int n) {
    return " ".repeat(n);
  }

  private static void tape() {
    Due.sentence(0, "A TEXT is read from THE TAPE (bytes, at most 120).");
    for (int n : new int[] {119, 120}) {
      String text = "wet" + blanks(n - 5) + "37";
      Due.due(n + " bytes", text.length(), n);
      Due.due(n + " bytes: WET", taken(text, 1).weather(0, 0), 37);
    }
    SheafVotes x = new SheafVotes();
    Due.put(x, "wet" + blanks(116) + "3");
    Due.due("the 121st byte", x.feed('7', 1), Due.FULL);
    Due.due("text()", x.text(), 1);
    Due.due("WET is by 120 of them", x.weather(0, 0), 3);
  }

  /** Every byte there is, ahead of, in and behind what it could be part of. */
  private static void everyByte() {
    Due.sentence(0, "TOKENS, each as long as can be: WORDS (letters a to z), NUMBERS (digits, 999 at most),"
        + " SIGNS ; and - (one each); blanks may stand between.");
    for (int b = 0; b < 256; b++) {
      char c = (char) b;
      boolean isLetter = c >= 'a' && c <= 'z';
      boolean isDigit = c >= '0' && c <= '9';
      byteAt(b, c + "wet 5", c == ' ' ? 1 : -1);
      byteAt(b, "we" + c + "t 5", -1);
      byteAt(b, "wet" + c + "5", isDigit || c == ' ' ? 1 : isLetter ? -1 : -1 - 3);
      byteAt(b, "wet 5" + c, isDigit || c == ' ' ? 1 : c == ';' ? -1 - 6 : -1 - 5);
      byteAt(b, "wet 5" + c + "wet 6", c == ';' ? 2 : isDigit ? -1 - 6 : c == ' ' ? -1 - 6 : -1 - 5);
      byteAt(b, "farm 1 thinks" + c + "1", c == '-' || c == ' ' || c == '0' ? 1 : isLetter ? -1 - 7 : -1 - 13);
    }
    farm("farm1hands2thinks-3", 0, 1, 2, -3);
    farm(" farm  1  hands  2  thinks  -  3  ", 0, 1, 2, -3);
    taken("wet1;wet2 ;wet3; wet4 ; wet5", 5);
    fault("farm lame 1", 5);
    fault("farmlame 1", 0);
    fault("far m 1", 0);
    fault("farm 1 2", 7);
    fault("farm 1;;farm 2", 7);
    fault("farm 1 thinks --1", 15);
    fault("farm 1 thinks - -1", 16);
  }

  private static void byteAt(int b, String text, int due) {
    SheafVotes x = new SheafVotes();
    Due.due("byte " + b + " in '" + text + "'", Due.read(x, text), due);
    Due.due("bytes then", x.count(5), 0);
  }

  private static void numbers() {
    Due.sentence(0, "TOKENS, each as long as can be: WORDS (letters a to z), NUMBERS (digits, 999 at most),"
        + " SIGNS ; and - (one each); blanks may stand between.");
    farm("farm 998", 0, 998, 4, 0);
    farm("farm 999", 0, 999, 4, 0);
    fault("farm 1000", 5);
    fault("farm 1001", 5);
    farm("farm 0999", 0, 999, 4, 0);
    farm("farm " + "0".repeat(112) + "999", 0, 999, 4, 0);
    fault("farm " + "0".repeat(111) + "1000", 5);
    // As ints and longs, wrapped around, these would be 0 to 999.
    String[] wrapped = {"4294967296", "4294968295", "8589934597", "18446744073709551616", "18446744073709551621",
      "340282366920938463463374607431768211456", "9".repeat(100)};
    for (String number : wrapped) {
      fault("farm " + number, 5);
      fault("wet " + number, 4);
      fault("farm 1 hands " + number, 13);
      fault("farm 1 thinks " + number, 14);
    }
  }

  private static void textOfItems() {
    Due.sentence(0, "TEXT: ITEM { ; ITEM }.");
    fault("", 0);
    taken("wet 1", 1);
    taken("wet 1;wet 2", 2);
    fault(";", 0);
    fault(";wet 1", 0);
    fault("wet 1;", 6);
    fault("wet 1; ", 7);
    fault("wet 1;;", 6);
    fault("wet 1 wet 2", 6);
    fault("wet 1-wet 2", 5);
    fault("-", 0);
    // The most items that 120 bytes hold, and a sign behind them for which there is just room.
    taken("wet1;".repeat(23) + "wet1", 24);
    fault("wet1;".repeat(24), 120);
  }

  private static void item() {
    Due.sentence(0, "ITEM: farm, lame, proud, sly, deep, machine or old, a NUMBER (FIELD), perhaps hands and a NUMBER (1 to 20),"
        + " perhaps thinks, perhaps - and a NUMBER (0 to 9): a new FARM; wet, mice or rain, a NUMBER (0 to 99).");
    String[] words = {"farm", "lame", "proud", "sly", "deep", "machine", "old"};
    for (int kind = 0; kind < 7; kind++) {
      String w = words[kind];
      int n = w.length();
      farm(w + " 0", kind, 0, 4, 0);
      farm(w + " 1", kind, 1, 4, 0);
      farm(w + " 998", kind, 998, 4, 0);
      farm(w + " 999", kind, 999, 4, 0);
      fault(w + " 1000", n + 1);
      fault(w + " -1", n + 1);
      fault(w + " hands 1", n + 1);
      fault(w + " thinks 1", n + 1);
      fault(w, n);
      fault(w + ";", n);
      fault(w + "s 1", 0);
      fault(w.substring(1) + " 1", 0);
      fault(w.substring(0, n - 1) + " 1", 0);
      otherWords(w, " 1");
      farm(w + " 7 hands 1", kind, 7, 1, 0);
      farm(w + " 7 hands 20 thinks 9", kind, 7, 20, 9);
      farm(w + " 7 thinks -9", kind, 7, 4, -9);
    }
    for (int hands : new int[] {0, 1, 2, 19, 20, 21, 22, 99, 999}) {
      if (hands >= 1 && hands <= 20) {
        farm("old 3 hands " + hands, 6, 3, hands, 0);
      } else {
        fault("old 3 hands " + hands, 12);
        fault("old 3 hands " + hands + " thinks 1", 12);
      }
    }
    for (int thinks : new int[] {0, 1, 8, 9, 10, 11, 99, 999}) {
      if (thinks <= 9) {
        farm("old 3 thinks " + thinks, 6, 3, 4, thinks);
        farm("old 3 thinks -" + thinks, 6, 3, 4, -thinks);
        farm("old 3 hands 20 thinks - " + thinks, 6, 3, 20, -thinks);
      } else {
        fault("old 3 thinks " + thinks, 13);
        fault("old 3 thinks -" + thinks, 14);
      }
    }
    weatherItems();
  }

  /** Each letter of a word, one by one, is another one: z, which stands in none of the words. */
  private static void otherWords(String word, String behind) {
    for (int i = 0; i < word.length(); i++) {
      fault(word.substring(0, i) + "z" + word.substring(i + 1) + behind, 0);
    }
  }

  private static void weatherItems() {
    String[] words = {"wet", "mice", "rain"};
    for (int what = 0; what < 3; what++) {
      String w = words[what];
      int n = w.length();
      for (int v : new int[] {0, 1, 98, 99}) {
        SheafVotes x = taken(w + " " + v, 1);
        for (int other = 0; other < 3; other++) {
          Due.due("'" + w + " " + v + "': what " + other, x.weather(other, 0), other == what ? v : 0);
        }
      }
      fault(w + " 100", n + 1);
      fault(w + " 101", n + 1);
      fault(w + " 999", n + 1);
      fault(w + " -1", n + 1);
      fault(w + " -0", n + 1);
      fault(w, n);
      fault(w + "s 1", 0);
      otherWords(w, " 1");
      fault(w + " 1 hands 1", n + 3);
      fault(w + " 1 thinks 1", n + 3);
      fault(w + " 1 1", n + 3);
    }
    for (String word : new String[] {"hands", "thinks"}) {
      for (int i = 0; i < word.length(); i++) {
        fault("old 3 " + word.substring(0, i) + "z" + word.substring(i + 1) + " 1", 6);
      }
      fault("old 3 " + word + "s 1", 6);
      fault("old 3 " + word.substring(1) + " 1", 6);
      fault("old 3 " + word.substring(0, word.length() - 1) + " 1", 6);
    }
    fault("hands 1", 0);
    fault("thinks 1", 0);
    fault("old 3 hands 2 hands 3", 14);
    fault("old 3 thinks 2 hands 3", 15);
    fault("old 3 thinks 2 thinks 3", 15);
    fault("old 3 - 2", 6);
    fault("old 3 hands - 2", 12);
    fault("old 3 hands thinks 2", 12);
  }

  private static void faults() {
    Due.sentence(0, "FAULT: the place (from 0) of the first byte of the first TOKEN that can't stand there (a NUMBER that"
        + " isn't as told, another WORD, a byte that begins no TOKEN, the WORD of a 9th FARM: its own), or how many bytes there"
        + " are if it ends too early.");
    fault("wet 5;rain 100", 11);
    fault("wet 5;rain  100 ;", 12);
    fault("wet 5;rains 1", 6);
    fault("wet 5; rains 1", 7);
    fault("wet 5;*", 6);
    fault("wet 5 *", 6);
    fault("wet 100;*", 4);
    fault("wet * 100", 4);
    // Too early: each beginning of a text that is none itself.
    String whole = "old 30 hands 12 thinks - 5;wet 40";
    int[] asTexts = {5, 6, 7, 14, 15, 16, 26, 32, 33};
    for (int n = 0; n <= whole.length(); n++) {
      String begin = whole.substring(0, n);
      if (java.util.Arrays.binarySearch(asTexts, n) >= 0) {
        taken(begin, n > 27 ? 2 : 1);
      } else {
        boolean isCutWord = n > 0 && Character.isLetter(whole.charAt(n - 1)) && n < whole.length()
            && Character.isLetter(whole.charAt(n));
        fault(begin, isCutWord ? begin.replaceAll("[a-z]+$", "").length() : n);
      }
    }
    for (int have = 0; have <= 8; have++) {
      ninth(have);
    }
  }

  /** So many are there: texts with as many as there may be yet, and with one more. */
  private static void ninth(int have) {
    Twins.Making making = x -> {
      for (int i = 0; i < have; i++) {
        x.farm(1, i);
      }
    };
    String item = "sly 1;";
    int room = 8 - have;
    String most = item.repeat(room) + "wet 7";
    SheafVotes x = Twins.made(making);
    Due.due(have + " and " + room, Due.read(x, most), room + 1);
    Due.due(have + " and " + room + ": FARMS", x.count(1), 8);
    Due.due(have + " and " + room + ": WET", x.weather(0, 0), 7);
    String[] tails = {"old 5", "old", "old *", "old 1000", "machine 0 hands 1", "farm;"};
    for (String tail : tails) {
      Twins.asked(have + " and " + room + " and '" + tail + "'", making, y -> Due.read(y, item.repeat(room) + tail), -1 - 6 * room);
    }
    Twins.asked("another WORD behind 8", making, y -> Due.read(y, item.repeat(room) + "wet 100"), -1 - 6 * room - 4);
  }

  private static void feed() {
    Due.sentence(35, "THE TAPE gets the n lowest bytes of a number behind it, the highest of these first (n 1 to 4): how many it has.");
    int ofAll = 'w' << 24 | 'e' << 16 | 't' << 8 | '5';
    String[] due = {"5", "t5", "et5", "wet5"};
    for (int n = 1; n <= 4; n++) {
      SheafVotes x = new SheafVotes();
      Due.put(x, "wet".substring(0, 4 - n));
      Due.due("feed(.., " + n + ")", x.feed(ofAll, n), 4);
      Due.due(due[n - 1] + " came", x.text(), 1);
      Due.due("WET", x.weather(0, 0), 5);
    }
    Due.due("all bits of a byte", Due.read(new SheafVotes(), "\u00f7\u00e5\u00f4" + "5"), -1);
    SheafVotes below = new SheafVotes();
    Due.put(below, "wet ");
    Due.due("a number below 0", below.feed(0xFFFFFF35, 1), 5);
    Due.due("its lowest byte came", below.text(), 1);
    Due.sentence(35, "BEYOND: n.");
    Twins.range("feed(0, n)", EdgesTextsTest::wiped, 1, 4, (x, n) -> x.feed('9', n));
    Twins.range("feed(0, n) behind others", 1, 4, (x, n) -> x.feed('9', n));
    Due.sentence(35, "FULL.");
    for (int have = 114; have <= 120; have++) {
      int bytes = have;
      Twins.Making making = x -> {
        wiped(x);
        Due.put(x, "wet" + blanks(bytes - 5) + "37");
      };
      for (int n = 1; n <= 4; n++) {
        int more = n;
        if (have + n <= 120) {
          SheafVotes x = Twins.made(making);
          Due.due(have + " bytes and " + n, x.feed(0x20202020, n), have + n);
          Due.due("count(5)", x.count(5), have + n);
          Due.due("text()", x.text(), 1);
          Due.due("WET", x.weather(0, 0), 37);
        } else {
          Twins.refused(have + " bytes and " + n, making, x -> x.feed(0x39393939, more), Due.FULL);
        }
      }
    }
    Twins.refused("BEYOND ahead of FULL", Twins::full, x -> x.feed(0, 0), Due.BEYOND);
  }

  private static void wipe() {
    Due.sentence(36, "THE TAPE is empty: how many it had.");
    for (int n : new int[] {0, 1, 119, 120}) {
      SheafVotes x = new SheafVotes();
      Due.put(x, "x".repeat(n));
      Due.due("count(5)", x.count(5), n);
      Due.due("wipe()", x.wipe(), n);
      Due.due("count(5) then", x.count(5), 0);
      Due.due("wipe() then", x.wipe(), 0);
      Due.due("feed then", x.feed('9', 1), 1);
      Due.due("text() then", x.text(), -1);
    }
    Twins.asked("wipe() of an empty one", EdgesTextsTest::wiped, x -> x.wipe(), 0);
  }

  private static void text() {
    Due.sentence(37, "THE TAPE is a TEXT, and empty then; all that it tells is so, item by item: how many ITEMS.");
    SheafVotes x = taken("wet 5;farm 3 hands 2;wet 6;mice 7;rain 8;rain 9;lame 4 thinks 1", 7);
    Due.due("WET is the later one", x.weather(0, 0), 6);
    Due.due("MICE", x.weather(1, 0), 7);
    Due.due("RAIN is the later one", x.weather(2, 0), 9);
    Due.due("FARMS", x.count(1), 2);
    Due.due("of(1, 0)", x.of(1, 0), 1);
    SheafVotes behind = Due.parish("farm 1;farm 2");
    Due.due("behind those that are there", Due.read(behind, "old 3"), 1);
    Due.due("its number is 2", behind.of(2, 0), 6);
    Due.due("and YEAR, z stay", behind.now(0) + behind.count(6), 1);
    Due.sentence(37, "With a FAULT: -1 less the FAULT (nothing changes but that THE TAPE is empty; no finding).");
    fault("", 0);
    fault("x", 0);
    fault("wet 5;farm 3;x", 13);
    fault("farm 3 hands 2;mice 7;rain 8;wet 1;wet 100", 39);
    String long119 = "wet 5;" + blanks(112) + "x";
    fault(long119, 118);
    fault(long119.replace("x", " x"), 119);
    fault("wet 5;" + blanks(114), 120);
    fault("wet 5;" + blanks(113), 119);
    fault("wet 5;" + blanks(112), 118);
    Twins.asked("text() of an empty one", EdgesTextsTest::wiped, y -> y.text(), -1);
  }

  public static void main(String[] args) {
    tape();
    everyByte();
    numbers();
    textOfItems();
    item();
    faults();
    feed();
    wipe();
    text();
    Due.end();
  }
}
