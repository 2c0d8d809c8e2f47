import java.lang.reflect.InvocationTargetException;
import java.lang.reflect.Method;
import java.lang.reflect.Modifier;
import java.nio.file.Files;
import java.nio.file.Path;
import java.util.Arrays;
import java.util.Comparator;
import java.util.LinkedHashMap;
import java.util.Map;
import java.util.regex.Matcher;
import java.util.regex.Pattern;

/**
 * Runs the tests that are each for some words of the document. It fails, too, if the document does not say what a test
 * is for, or if it says something in its terms and promises that no test is for.
 */
public final class EdgeTests extends Halls {
  private static final Class<?>[] TESTS = {EdgesOfThings.class, EdgesOfTexts.class, EdgesOfLaws.class, EdgesOfOrders.class, EdgesOfActs.class,
      EdgesOfPaper.class, EdgesOfWays.class, EdgesOfDays.class, EdgesOfCalls.class, EdgesOfAnswers.class};

  private static final Map<String, String> parts = new LinkedHashMap<>();
  private static final Map<String, boolean[]> tested = new LinkedHashMap<>();
  private static int tests = 0;

  private static void missing(String what) {
    wrong++;
    System.out.println(what);
  }

  private static String plain(String text) {
    return text.replace("```text", " ").replace("```", " ").replaceAll("\\s+", " ").trim();
  }

  private static void part(String name, String text) {
    parts.put(name, plain(text));
    tested.put(name, new boolean[plain(text).length()]);
  }

  private static String between(String text, String from, String to) {
    int a = text.indexOf(from);
    int b = a < 0 ? -1 : text.indexOf(to, a + from.length());
    if (b < 0) {
      missing("the document has no part between '" + from.trim() + "' and '" + to.trim() + "'");
      return "";
    }
    return text.substring(a + from.length(), b);
  }

  /** The parts of the document: how long it is used, its terms, its constants, its promises without their signatures. */
  private static void readDocument(String path) throws Exception {
    String all = Files.readString(Path.of(path)) + "\n## ";
    part("use", "An object is used" + between(all, "\nAn object is used", "\n## "));
    String[] terms = {"\nI. ", "\nII. ", "\nIII. ", "\nIV. ", "\nThe constants: "};
    for (int i = 0; i + 1 < terms.length; i++) part(terms[i].replace(".", "").trim(), between(all, terms[i], terms[i + 1]));
    part("constants", between(all, terms[4], "\n## "));
    Matcher heads = Pattern.compile("\n## (Promise \\d+): [^\n]+\n").matcher(all);
    while (heads.find()) part(heads.group(1), between(all.substring(heads.start()), heads.group(), "\n## ").trim().replaceFirst("^`[^`]*`:", ""));
    if (parts.size() != 6 + 42) missing("the document has " + parts.size() + " parts");
  }

  private static void mark(Method test, Says says) {
    String text = parts.get(says.in());
    if (text == null) {
      missing(test + " is for '" + says.in() + "', which is no part of the document");
      return;
    }
    for (String quote : says.value()) {
      int at = text.indexOf(quote);
      if (at < 0) missing(test.getName() + ": the document does not say '" + quote + "' in " + says.in());
      else Arrays.fill(tested.get(says.in()), at, at + quote.length(), true);
    }
  }

  private static void run(Method test) throws Exception {
    Says says = test.getAnnotation(Says.class);
    if (says == null) return;
    mark(test, says);
    topic = says.in() + ", '" + String.join("', '", says.value()) + "'";
    int asked = Halls.asked;
    try {
      test.invoke(null);
    } catch (InvocationTargetException e) {
      missing(topic + ": threw " + e.getCause());
    }
    if (asked == Halls.asked) missing(topic + ": asked nothing");
    tests++;
  }

  private static void untested() {
    for (Map.Entry<String, String> part : parts.entrySet()) {
      StringBuilder left = new StringBuilder();
      for (int i = 0; i < part.getValue().length(); i++) left.append(tested.get(part.getKey())[i] ? '\n' : part.getValue().charAt(i));
      for (String words : left.toString().split("\n+"))
        if (words.matches(".*[A-Za-z0-9].*")) missing("no test is for '" + words.trim() + "' in " + part.getKey());
    }
  }

  public static void main(String[] args) throws Exception {
    readDocument(args.length > 1 ? args[1] : "../shared/DOC.md");
    for (Class<?> type : TESTS) {
      Method[] all = type.getDeclaredMethods();
      Arrays.sort(all, Comparator.comparing(Method::getName));
      for (Method test : all) if (Modifier.isStatic(test.getModifiers())) run(test);
    }
    untested();
    System.out.println(wrong == 0 ? tests + " tests, " + asked + " answers are as due" : wrong + " of " + asked + " answers are not as due");
    if (wrong != 0) System.exit(1);
  }
}
