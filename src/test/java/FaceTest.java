import java.lang.reflect.Constructor;
import java.lang.reflect.Field;
import java.lang.reflect.Method;
import java.lang.reflect.Modifier;
import java.nio.file.Files;
import java.nio.file.Path;
import java.util.ArrayList;
import java.util.Collections;
import java.util.List;
import java.util.Set;
import java.util.TreeSet;
import java.util.regex.Matcher;
import java.util.regex.Pattern;

/** The document's face, and what of LANGUAGE.md can be looked up in the source or the class. */
public final class FaceTest {
  private static final String[] FACE = {
    "int weather(int, int)", "int farm(int, int)", "int of(int, int)", "int change(int, int, int)", "int left(int, int)",
    "int last()", "int first()", "int next()", "int lean()", "int answer(int)", "int go(int)", "int now(int)",
    "int holder(int)", "int ahead(int, int, int)", "int leans(int)", "int when(int)", "int tie()", "int turns(int)",
    "int mostHands(int)", "int fewestHands(int)", "int lend(int)", "int kinds(int)", "int wetFor(int)",
    "int tell(int, int)", "int voice()", "int miceFor(int, int)", "int wins(int, int)", "int cut(int, int)",
    "int fits(int, int)", "int thinks(int, int)", "int weathers(int)", "long odds(int, int)", "int seed(int)",
    "int feed(int, int)", "int wipe()", "int text()", "int hold(int, int)", "int as(int, int)",
    "int sheet(int, int, int)", "int write(int, int, int)", "int copy(int, int, int, int, int)", "int load(int)",
    "int judge(int)", "int image()", "int undo()", "int tear()", "int count(int)", "int status(int)"};

  private static void face() {
    Set<String> want = new TreeSet<>(List.of(FACE));
    Set<String> got = new TreeSet<>();
    for (Method m : SheafVotes.class.getDeclaredMethods()) {
      if (Modifier.isPublic(m.getModifiers())) {
        Due.holds(m + " is no static one", !Modifier.isStatic(m.getModifiers()));
        got.add(told(m));
      } else {
        Due.holds(m + " is private", Modifier.isPrivate(m.getModifiers()));
      }
    }
    Due.holds("the face is the document's: " + got, got.equals(want));
    int modifiers = SheafVotes.class.getModifiers();
    Due.holds("public and final", Modifier.isPublic(modifiers) && Modifier.isFinal(modifiers));
    Constructor<?>[] makers = SheafVotes.class.getDeclaredConstructors();
    Due.due("constructors", makers.length, 1);
    Due.holds("a public one", Modifier.isPublic(makers[0].getModifiers()) && makers[0].getParameterCount() == 0);
  }

  private static String told(Method m) {
    List<String> types = new ArrayList<>();
    for (Class<?> type : m.getParameterTypes()) {
      types.add(type.getSimpleName());
    }
    return m.getReturnType().getSimpleName() + " " + m.getName() + "(" + String.join(", ", types) + ")";
  }

  private static void members(Class<?> c, Set<String> publicNames) {
    int fields = 0;
    for (Field f : c.getDeclaredFields()) {
      boolean isStatic = Modifier.isStatic(f.getModifiers());
      Due.holds(f + " is final if it is static", !isStatic || Modifier.isFinal(f.getModifiers()));
      Due.holds(f + " is private in the public class", c != SheafVotes.class || Modifier.isPrivate(f.getModifiers()));
      fields += isStatic ? 0 : 1;
    }
    Due.holds(c + " has some twenty fields at most", fields <= 20);
    for (Method m : c.getDeclaredMethods()) {
      Due.holds(m + " has seven parameters at most", m.getParameterCount() <= 7);
      boolean isOfFace = c == SheafVotes.class && Modifier.isPublic(m.getModifiers());
      Due.holds(m + " has no name of the face", isOfFace || !publicNames.contains(m.getName()));
    }
  }

  private static void classes() {
    Set<String> publicNames = new TreeSet<>();
    for (String method : FACE) {
      publicNames.add(method.replaceAll("^\\w+ (\\w+).*", "$1"));
    }
    members(SheafVotes.class, publicNames);
    Class<?>[] inside = SheafVotes.class.getDeclaredClasses();
    Due.holds("some twelve classes at most", inside.length <= 11);
    for (Class<?> c : inside) {
      Due.holds(c + " is static", Modifier.isStatic(c.getModifiers()));
      Due.holds(c + " is not public", !Modifier.isPublic(c.getModifiers()) && !Modifier.isProtected(c.getModifiers()));
      Due.due(c + ": classes inside", c.getDeclaredClasses().length, 0);
      members(c, publicNames);
    }
  }

  private static String code() throws Exception {
    String source = Files.readString(Path.of("src/main/java/SheafVotes.java"));
    return source.replaceAll("(?s)/\\*.*?\\*/", " ").replaceAll("//[^\n]*", " ")
        .replaceAll("\"(\\\\.|[^\"\\\\])*\"", "\"\"").replaceAll("'(\\\\.|[^'\\\\])'", "0");
  }

  private static void words() throws Exception {
    String code = code();
    String[] banned = {"throw", "throws", "try", "catch", "finally", "synchronized", "assert", "import", "package",
      "native", "volatile", "transient", "instanceof", "equals", "hashCode", "toString", "Object", "Thread", "Random",
      "double", "float", "var", "record", "sealed", "strictfp", "goto"};
    for (String word : banned) {
      Due.holds("no '" + word + "'", !Pattern.compile("\\b" + word + "\\b").matcher(code).find());
    }
    Due.holds("no lambda", !code.contains("->"));
    Due.holds("no method reference", !code.contains("::"));
    Due.holds("no name ends in Exact", !Pattern.compile("Exact\\b").matcher(code).find());
    Due.holds("no static initialiser", !Pattern.compile("static\\s*\\{").matcher(code).find());
    Set<String> library = new TreeSet<>();
    Matcher m = Pattern.compile("\\b(Math|Integer|Long|System|Arrays|String|StringBuilder)\\.(\\w+)").matcher(code);
    while (m.find()) {
      library.add(m.group());
    }
    library.removeAll(Set.of("Math.max", "Math.min", "Math.abs", "Integer.bitCount", "System.arraycopy"));
    Due.holds("no library but what stands in the rules: " + library, library.isEmpty());
  }

  /** Objects are made in constructors alone, so that a run's calls take no room. */
  private static void made() throws Exception {
    Set<String> makes = new TreeSet<>();
    Matcher m = Pattern.compile("\\bnew\\s+(\\w+)").matcher(code());
    int count = 0;
    while (m.find()) {
      makes.add(m.group(1));
      count++;
    }
    Due.holds("nothing else is made: " + makes,
        makes.equals(Set.of("Parish", "Tape", "TextReader", "Sheet", "Farm", "int", "byte")));
    Due.due("places where something is made", count, 14);
  }

  /** A method's first line stands 4 or 8 to the right, and so does its last. */
  private static void methodsAreShort() throws Exception {
    List<String> lines = Files.readAllLines(Path.of("src/main/java/SheafVotes.java"));
    int longest = 0;
    for (int i = 0; i < lines.size(); i++) {
      Matcher m = Pattern.compile("^( {4}| {8})[A-Za-z].*\\) \\{$").matcher(lines.get(i));
      if (m.matches()) {
        int end = i + lines.subList(i, lines.size()).indexOf(m.group(1) + "}");
        Due.holds("line " + (i + 1) + ": it has an end", end > i);
        longest = Math.max(longest, end - i + 1);
      }
    }
    Due.holds("methods have sixty lines at most: " + longest, longest > 0 && longest <= 60);
    Due.holds("no line is longer than 120", Collections.max(lines, (a, b) -> a.length() - b.length()).length() <= 120);
  }

  public static void main(String[] args) throws Exception {
    face();
    classes();
    words();
    made();
    methodsAreShort();
    Due.end();
  }
}
