import java.nio.file.DirectoryStream;
import java.nio.file.Files;
import java.nio.file.Path;
import java.util.ArrayList;
import java.util.List;
import java.util.Map;
import java.util.TreeMap;
import java.util.regex.Matcher;
import java.util.regex.Pattern;

/**
 * Each sentence of the document's Terms and promises stands, word for word, over a test of its edges
 * (Due.sentence in the Edges tests), and no test stands for words that the document hasn't.
 */
public final class SentencesTest {
  private static final Path DOCUMENT = Path.of("../shared/DOC.md");
  private static final Pattern QUOTE =
      Pattern.compile("Due\\.sentence\\(\\s*(\\d+),\\s*((?:\"(?:[^\"\\\\]|\\\\.)*\"[\\s+]*)+)\\)");

  private static String plain(String text) {
    return text.replaceAll("```(text)?", " ").replaceAll("\\s+", " ").trim();
  }

  /** The document's words, of the Terms under 0. */
  private static Map<Integer, String> document() throws Exception {
    String all = Files.readString(DOCUMENT);
    Map<Integer, String> words = new TreeMap<>();
    String terms = all.substring(all.indexOf("## Terms") + 8, all.indexOf("Ahead of the calls"));
    words.put(0, plain(terms.replaceAll("(?m)^\\d\\. ", "")));
    Matcher m = Pattern.compile("## Promise (\\d+): [^\n]*\n+`[^`]*`: ([^\n]*)\n").matcher(all);
    while (m.find()) {
      words.put(Integer.parseInt(m.group(1)), plain(m.group(2)));
    }
    return words;
  }

  private static Map<Integer, List<String>> quotes() throws Exception {
    Map<Integer, List<String>> quotes = new TreeMap<>();
    try (DirectoryStream<Path> files = Files.newDirectoryStream(Path.of("src/test/java"), "Edges*Test.java")) {
      for (Path file : files) {
        Matcher m = QUOTE.matcher(Files.readString(file));
        while (m.find()) {
          String words = m.group(2).replaceAll("\"\\s*\\+\\s*\"", "").replaceAll("^\"|\"\\s*$", "");
          quotes.computeIfAbsent(Integer.parseInt(m.group(1)), k -> new ArrayList<>()).add(words);
        }
      }
    }
    return quotes;
  }

  public static void main(String[] args) throws Exception {
    Map<Integer, List<String>> quotes = quotes();
    for (int promise = 0; promise <= 49; promise++) {
      Due.holds("promise " + promise + " has a test of its edges", quotes.containsKey(promise));
    }
    if (!Files.exists(DOCUMENT)) {
      System.out.println("there is no " + DOCUMENT + " to look the sentences up in");
      Due.end();
      return;
    }
    Map<Integer, String> document = document();
    Due.due("promises of the document, and its Terms", document.size(), 50);
    for (Map.Entry<Integer, String> told : document.entrySet()) {
      String left = told.getValue();
      List<String> words = quotes.getOrDefault(told.getKey(), List.of());
      for (String quote : words) {
        Due.holds("promise " + told.getKey() + " has the words '" + quote + "'", told.getValue().contains(quote));
      }
      List<String> longestFirst = new ArrayList<>(words);
      longestFirst.sort((a, b) -> b.length() - a.length());
      for (String quote : longestFirst) {
        left = left.replace(quote, " ");
      }
      Due.holds("promise " + told.getKey() + " has no test for '" + left.trim() + "'", !left.matches(".*[A-Za-z0-9].*"));
    }
    Due.end();
  }
}
