import java.nio.file.Files;
import java.nio.file.Path;
import java.util.regex.Matcher;
import java.util.regex.Pattern;
import javax.tools.ToolProvider;

/** Compiles the Java of README.md and runs it: a line's comment begins with the number that it answers, if it has one. */
public final class ReadmeTests extends Halls {
  private static final Pattern BLOCK = Pattern.compile("```java\n(.*?)```", Pattern.DOTALL);
  private static final Pattern ANSWERED = Pattern.compile("(?:int (\\w+) = )?(.+);\\s+// (-?\\d+)\\b.*");
  private static int answered = 0;

  private static String checked(String line) {
    Matcher m = ANSWERED.matcher(line);
    if (!m.matches()) return line;
    answered++;
    String said = "due(\"" + line.replaceAll(";.*", "").replace("\"", "'") + "\", ";
    return m.group(1) == null ? said + m.group(2) + ", " + m.group(3) + ");" : line + "\n" + said + m.group(1) + ", " + m.group(3) + ");";
  }

  /** Blocks that begin with "static" are methods; the others are run one behind the other. */
  private static String program(String readme) {
    StringBuilder methods = new StringBuilder(), run = new StringBuilder();
    Matcher m = BLOCK.matcher(readme);
    while (m.find()) {
      if (m.group(1).startsWith("static")) methods.append(m.group(1));
      else for (String line : m.group(1).split("\n")) run.append(checked(line)).append('\n');
    }
    return "final class Readme extends Halls {\n" + methods + "static void run() {\n" + run + "}\n}\n";
  }

  public static void main(String[] args) throws Exception {
    topic = "README.md";
    String readme = Files.readString(Path.of(args.length > 2 ? args[2] : "README.md"));
    Path classes = Path.of(ReadmeTests.class.getProtectionDomain().getCodeSource().getLocation().toURI());
    Path source = Files.createTempDirectory("readme").resolve("Readme.java");
    Files.writeString(source, program(readme));
    if (ToolProvider.getSystemJavaCompiler().run(null, null, null, "-cp", classes.toString(), "-d", classes.toString(), source.toString()) == 0) {
      Class.forName("Readme").getDeclaredMethod("run").invoke(null);
    } else {
      due("does it compile", 0, 1);
    }
    Files.delete(source);
    Files.delete(source.getParent());
    due("lines that tell an answer", asked, answered);
    due("there are some", answered > 20 ? 1 : 0, 1);
    for (java.lang.reflect.Method call : TicketHall.class.getDeclaredMethods())
      if (java.lang.reflect.Modifier.isPublic(call.getModifiers())) due(call.getName() + " is told of", readme.contains("`" + call.getName()) ? 1 : 0, 1);
    System.out.println(wrong == 0 ? answered + " lines of README.md answer what they say" : wrong + " of README.md are not as it says");
    if (wrong != 0) System.exit(1);
  }
}
