/** What every test of the project uses: it tells each answer that isn't the one that is due. */
final class Due {
  static final int BEYOND = -1000001;
  static final int FULL = -1000002;
  static final int KIND = -1000003;
  static final int NONE = -1000004;
  static final int STATE = -1000005;
  static final int MISSING = -1000006;
  static final int SIZE = -1000007;

  private static int asked = 0;
  private static int wrong = 0;
  private static String about = "";

  private Due() {
  }

  /** What is asked from here on is for these words of the document: of a promise, or (0) of its Terms. SentencesTest reads them. */
  static void sentence(int promise, String words) {
    about = (promise == 0 ? "Terms" : "Promise " + promise) + ", '" + words + "': ";
  }

  static void due(String call, long got, long want) {
    asked++;
    if (got != want) {
      wrong++;
      System.out.println(about + call + " answered " + got + ", due is " + want);
    }
  }

  static void holds(String what, boolean isSo) {
    asked++;
    if (!isSo) {
      wrong++;
      System.out.println(about + "not so: " + what);
    }
  }

  /** Feeds a text, byte by byte, and answers what text() does. */
  static int read(SheafVotes x, String text) {
    put(x, text);
    return x.text();
  }

  static void put(SheafVotes x, String text) {
    for (int i = 0; i < text.length(); i++) {
      x.feed(text.charAt(i), 1);
    }
  }

  /** A parish from a text that is none of the test's own matter. */
  static SheafVotes parish(String... texts) {
    SheafVotes x = new SheafVotes();
    for (String text : texts) {
      if (read(x, text) < 1) {
        holds("the test's own text reads: " + text, false);
      }
    }
    return x;
  }

  /** A parish without farms in a year that only more than 512 calls come to. */
  static SheafVotes late(int year) {
    SheafVotes x = new SheafVotes();
    for (int left = year; left > 0; left -= 60) {
      x.go(Math.min(60, left));
    }
    return x;
  }

  static void end() {
    System.out.println(asked + " answers asked, " + wrong + " wrong");
    if (wrong != 0) {
      System.exit(1);
    }
  }
}
