import java.lang.reflect.Method;
import java.lang.reflect.Modifier;
import java.nio.file.Files;
import java.nio.file.Path;
import java.util.ArrayList;
import java.util.List;
import java.util.Map;
import java.util.TreeMap;
import java.util.regex.Matcher;
import java.util.regex.Pattern;

/** What README.md tells is so: its examples, its table of findings, and its table of calls. */
public final class ReadmeTest {
  private static final Path DOCUMENT = Path.of("../shared/DOC.md");
  private static final String FINDING = "(?:BEYOND|FULL|KIND|NONE|STATE|MISSING|SIZE)";
  private static final Pattern SHOWN = Pattern.compile("x\\.(\\w+)\\(([^)]*)\\);\\s+// (-?\\d+)(?:: .*)?");
  private static final Pattern ROW = Pattern.compile("(?m)^\\| `(\\w+)\\(([^)]*)\\)` \\| .* \\| ([A-Z, ]*)\\|$");

  private static Map<String, Method> face() {
    Map<String, Method> face = new TreeMap<>();
    for (Method m : SheafVotes.class.getDeclaredMethods()) {
      if (Modifier.isPublic(m.getModifiers())) {
        face.put(m.getName(), m);
      }
    }
    return face;
  }

  private static List<String> listed(String list) {
    List<String> words = new ArrayList<>();
    for (String word : list.split(",")) {
      if (!word.isBlank()) {
        words.add(word.strip());
      }
    }
    return words;
  }

  private static long ask(SheafVotes x, Method m, List<String> written) throws Exception {
    Object[] numbers = new Object[written.size()];
    for (int i = 0; i < numbers.length; i++) {
      numbers[i] = Integer.decode(written.get(i));
    }
    return ((Number) m.invoke(x, numbers)).longValue();
  }

  private static void examples(String readme) throws Exception {
    Map<String, Method> face = face();
    Matcher blocks = Pattern.compile("(?s)```java\n(.*?)```").matcher(readme);
    int shown = 0;
    while (blocks.find()) {
      String[] lines = blocks.group(1).split("\n");
      Due.holds("an example begins with an object: " + lines[0], lines[0].equals("SheafVotes x = new SheafVotes();"));
      SheafVotes x = new SheafVotes();
      for (int i = 1; i < lines.length; i++) {
        Matcher m = SHOWN.matcher(lines[i]);
        boolean isCall = m.matches() && face.containsKey(m.group(1));
        Due.holds("a call with its answer: " + lines[i], isCall);
        if (isCall) {
          Due.due(lines[i], ask(x, face.get(m.group(1)), listed(m.group(2))), Long.parseLong(m.group(3)));
          shown++;
        }
      }
    }
    Due.holds("there are examples", shown > 30);
  }

  /** Each finding's row, against an act that answers it and where status() counts it. */
  private static void findings(String readme) {
    String[] names = {"BEYOND", "FULL", "KIND", "NONE", "STATE", "MISSING", "SIZE"};
    for (int which = 0; which < names.length; which++) {
      String row = "| " + names[which] + " | " + (Due.BEYOND - which) + " | " + which + " |\n";
      Due.holds("a row: " + row, readme.contains(row));
    }
    SheafVotes x = Due.parish("farm1;farm1;farm1;farm1;farm1;farm1;farm1;farm1");
    x.hold(0, 0);
    long[] answers = {x.answer(100), x.farm(0, 0), x.as(0, 1), x.undo(), Due.STATE, x.load(0), x.sheet(0, 0, -1)};
    for (int which = 0; which < names.length; which++) {
      Due.due(names[which], answers[which], Due.BEYOND - which);
      Due.due("status of " + names[which], x.status(which), which == 4 ? 0 : 1);
    }
  }

  /** Of each promise: its findings, in the order of its words; they begin sentences behind the first one. */
  private static Map<String, List<String>> promised() throws Exception {
    Map<String, List<String>> promised = new TreeMap<>();
    Matcher m = Pattern.compile("## Promise \\d+: (\\w+)\n+`[^`]*`: ([^\n]*)\n").matcher(Files.readString(DOCUMENT));
    while (m.find()) {
      List<String> found = new ArrayList<>();
      String[] sentences = m.group(2).split("(?<=\\.) ");
      for (int i = 1; i < sentences.length; i++) {
        Matcher begin = Pattern.compile("^" + FINDING + "(?:, " + FINDING + ")*").matcher(sentences[i]);
        if (begin.find()) {
          found.addAll(listed(begin.group()));
        }
      }
      promised.put(m.group(1), found);
    }
    return promised;
  }

  private static void calls(String readme) throws Exception {
    Map<String, Method> face = face();
    Map<String, List<String>> rows = new TreeMap<>();
    Matcher m = ROW.matcher(readme);
    while (m.find()) {
      String name = m.group(1);
      Due.holds(name + " is a call, and has one row", face.containsKey(name) && !rows.containsKey(name));
      if (face.containsKey(name)) {
        Due.due(name + ": arguments", listed(m.group(2)).size(), face.get(name).getParameterCount());
      }
      rows.put(name, listed(m.group(3)));
    }
    Due.holds("each call has a row: " + rows.keySet(), rows.keySet().equals(face.keySet()));
    if (Files.exists(DOCUMENT)) {
      Map<String, List<String>> promised = promised();
      for (String name : rows.keySet()) {
        Due.holds(name + " has the findings " + promised.get(name), rows.get(name).equals(promised.get(name)));
      }
    }
  }

  public static void main(String[] args) throws Exception {
    String readme = Files.readString(Path.of("README.md"));
    examples(readme);
    findings(readme);
    calls(readme);
    Due.end();
  }
}
