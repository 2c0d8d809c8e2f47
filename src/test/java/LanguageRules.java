import java.lang.reflect.Field;
import java.lang.reflect.Member;
import java.lang.reflect.Method;
import java.lang.reflect.Modifier;
import java.nio.file.Files;
import java.nio.file.Path;
import java.util.HashSet;
import java.util.List;
import java.util.Set;
import java.util.regex.Matcher;
import java.util.regex.Pattern;

/** Those rules of ../shared/LANGUAGE.md that can be seen in the source and the class files. */
public final class LanguageRules {
  private static final Set<String> LIBRARY = Set.of("java/lang/Object.<init>", "java/lang/String.length", "java/lang/String.charAt",
      "java/util/Arrays.fill", "java/util/Arrays.copyOf", "java/lang/System.arraycopy", "java/lang/Math.min", "java/lang/Math.max",
      "java/lang/Integer.bitCount");
  private static final List<String> FACE = List.of("person", "of", "ticket", "at", "wish", "desk", "asks", "terms", "feed", "end", "row", "scraps", "law",
      "orders", "fault", "stopped", "force", "draw", "swap", "drop", "pass", "undo", "day", "waiting", "about", "trade", "both", "take", "desks", "told",
      "forget", "had", "ask", "few", "compare", "days", "drawn", "image", "back", "count", "status");

  private static int wrong = 0;

  private static void must(int rule, boolean holds, String what) {
    if (!holds) {
      wrong++;
      System.out.println("rule " + rule + ": " + what);
    }
  }

  private static void face() {
    Set<String> seen = new HashSet<>();
    for (Method m : TicketHall.class.getDeclaredMethods()) {
      if (Modifier.isPublic(m.getModifiers())) must(1, FACE.contains(m.getName()) && seen.add(m.getName()), "public method " + m);
      else must(1, Modifier.isPrivate(m.getModifiers()) && !FACE.contains(m.getName()), "method " + m);
    }
    must(1, seen.size() == FACE.size(), "a method of the face is missing");
    must(1, Modifier.isFinal(TicketHall.class.getModifiers()), "the class is final");
    must(1, TicketHall.class.getDeclaredConstructors().length == 1, "one constructor");
    for (Field f : TicketHall.class.getDeclaredFields())
      must(1, Modifier.isPrivate(f.getModifiers()) || f.getName().equals("NONE"), "field " + f);
  }

  private static void shape(Class<?> type) {
    int fields = 0;
    for (Field f : type.getDeclaredFields()) {
      int m = f.getModifiers();
      if (!Modifier.isStatic(m)) fields++;
      else must(5, Modifier.isFinal(m) && (f.getType().isPrimitive() || f.getType() == String.class), "static field " + f);
    }
    must(11, fields <= 20, type + " has " + fields + " fields");
    for (Method m : type.getDeclaredMethods()) {
      must(11, m.getParameterCount() <= 7, "parameters of " + m);
      if (type != TicketHall.class) must(1, !FACE.contains(m.getName()), "the name of " + m);
    }
    for (Member m : type.getDeclaredMethods()) must(1, !m.isSynthetic(), "synthetic " + m);
  }

  private static void library(Class<?> type, ClassFile file) {
    for (Set<String> calls : file.calls.values())
      for (String call : calls) {
        must(2, !call.equals("at run time"), type + " has a call made at run time (a lambda or texts joined by +)");
        if (call.startsWith("TicketHall")) continue;
        must(4, LIBRARY.contains(call.replaceFirst("\\(.*", "")), type + " calls " + call);
        must(4, !call.matches("java/util/Arrays.*\\(\\[[ZL].*"), type + " calls " + call + ", which is for arrays of numbers");
      }
  }

  /** A recursion is told its depth by a number, and all other calls stay shallow. */
  private static void depth(CallGraph graph) {
    for (String method : graph.recursive()) must(8, method.matches(".*\\([^)]*I[^)]*\\).*"), method + " calls itself and is told no depth");
    List<String> longest = graph.longest();
    must(11, longest.size() <= 8, "calls go " + longest.size() + " deep: " + longest);
    must(11, longest.size() > 4, "the calls were not found");
  }

  private static void types(Class<?> type) {
    for (Field f : type.getDeclaredFields()) must(3, isOfTheLanguage(f.getType()), "the type of " + f);
    for (Method m : type.getDeclaredMethods()) {
      must(3, m.getReturnType() == void.class || isOfTheLanguage(m.getReturnType()), "the type of " + m);
      for (Class<?> parameter : m.getParameterTypes()) must(3, isOfTheLanguage(parameter), "the types of " + m);
    }
  }

  /** Of what the language has, the part that the class is written in: numbers, texts, own classes, arrays (of two dimensions, if of numbers). */
  private static boolean isOfTheLanguage(Class<?> type) {
    Class<?> of = type.isArray() ? type.getComponentType() : type;
    return of.isPrimitive() || of.isArray() && of.getComponentType().isPrimitive() || of == String.class || of.getName().startsWith("TicketHall$");
  }

  private static void source(String path) throws Exception {
    String all = Files.readString(Path.of(path));
    for (char c : all.toCharArray()) if (c > 126) must(4, false, "a sign above 126 in the source");
    String code = all.replaceAll("(?s)/\\*.*?\\*/", "").replaceAll("//[^\n]*", "").replaceAll("\"[^\"]*\"", "\"\"");
    String[] none = {"\\bthrow\\b", "\\btry\\b", "\\bcatch\\b", "\\bsynchronized\\b", "\\bassert\\b", "->", "::", "static\\s*\\{", "\\bpackage\\b",
        "\\bwhile\\s*\\(true", "for\\s*\\(;;"};
    for (String bad : none) {
      Matcher m = Pattern.compile(bad).matcher(code);
      if (m.find()) must(6, false, "the source has " + m.group());
    }
    Matcher imports = Pattern.compile("import ([\\w.*]+);").matcher(code);
    while (imports.find()) must(4, imports.group(1).equals("java.util.Arrays"), "import " + imports.group(1));
    String[] lines = all.split("\n");
    Pattern head = Pattern.compile("^( {4}| {8})(?:[\\w\\[\\]]+ )*\\w+\\(.*\\) \\{$");
    for (int i = 0; i < lines.length; i++) {
      Matcher m = head.matcher(lines[i]);
      if (!m.matches()) continue;
      int end = i;
      while (end < lines.length && !lines[end].equals(m.group(1) + "}")) end++;
      must(11, end - i < 62, "a method of " + (end - i + 1) + " lines at line " + (i + 1));
    }
  }

  private static void check(Class<?> type, CallGraph graph) throws Exception {
    ClassFile file = new ClassFile(type);
    shape(type);
    types(type);
    library(type, file);
    graph.add(file.calls);
  }

  public static void main(String[] args) throws Exception {
    Class<?>[] inside = TicketHall.class.getDeclaredClasses();
    must(11, inside.length + 1 <= 12, "there are " + (inside.length + 1) + " classes");
    face();
    CallGraph graph = new CallGraph();
    check(TicketHall.class, graph);
    for (Class<?> type : inside) {
      must(2, Modifier.isStatic(type.getModifiers()) && !Modifier.isPublic(type.getModifiers()), type + " is not static");
      must(2, type.getDeclaredClasses().length == 0, type + " has classes inside");
      check(type, graph);
    }
    depth(graph);
    source(args.length > 0 ? args[0] : "src/main/java/TicketHall.java");
    System.out.println(wrong == 0 ? "the rules of the language are kept" : wrong + " breaches of the language");
    if (wrong != 0) System.exit(1);
  }
}
