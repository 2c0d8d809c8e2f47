import java.lang.reflect.Method;
import java.util.ArrayList;
import java.util.HashMap;
import java.util.List;
import java.util.Map;
import java.util.Random;

/** Random runs of 512 calls at most, each call on TicketHall and on HallModel; the seeds are fixed. */
public final class ModelRuns {
  private static final int RUNS = 6000;
  private static final String[] READERS = {"of", "at", "asks", "scraps", "fault", "stopped", "day", "waiting", "about", "trade", "both",
      "take", "desks", "had", "ask", "few", "compare", "drawn", "count", "status"};
  private static final String[] CHANGERS = {"person", "ticket", "wish", "wish", "wish", "desk", "terms", "force", "draw", "draw", "draw", "draw",
      "swap", "swap", "drop", "pass", "undo", "told", "forget", "days", "image", "back", "feed", "end", "row", "law", "orders"};

  private final Random random;
  private final TicketHall hall = new TicketHall();
  private final HallModel model = new HallModel();
  private final List<String> log = new ArrayList<>();
  private int calls = 0;
  private int wrong = 0;
  private static final Map<String, Integer> answers = new HashMap<>();
  private static final Map<String, Method> hallMethods = new HashMap<>();
  private static final Map<String, Method> modelMethods = new HashMap<>();

  private ModelRuns(long seed) { random = new Random(seed); }

  private long call(String name, int... args) throws Exception {
    Object[] boxed = new Object[args.length];
    StringBuilder text = new StringBuilder(name).append('(');
    for (int i = 0; i < args.length; i++) {
      boxed[i] = args[i];
      text.append(i > 0 ? ", " : "").append(args[i]);
    }
    calls++;
    long due = ((Number) modelMethods.get(name).invoke(model, boxed)).longValue();
    long got;
    try {
      got = ((Number) hallMethods.get(name).invoke(hall, boxed)).longValue();
    } catch (Exception e) {
      got = Long.MIN_VALUE;
    }
    log.add(text.append(") ").append(got).toString());
    answers.merge(name + (due < 0 ? " " + due : " +"), 1, Integer::sum);
    if (got != due && wrong++ == 0) {
      for (String line : log) System.out.println("  " + line);
      System.out.println("  due is " + due);
    }
    return due;
  }

  private int upTo(int high) { return random.nextInt(high + 1); }

  private int person() { return upTo(11) == 0 ? upTo(9) - 2 : random.nextInt(Math.max(1, model.now.people.size())); }

  private int ticket() { return upTo(11) == 0 ? upTo(11) - 2 : random.nextInt(Math.max(1, model.now.tickets.size())); }

  private int near(int low, int high) {
    int r = upTo(19);
    return r == 0 ? low - 1 : r == 1 ? high + 1 : r == 2 ? low : r == 3 ? high : low + upTo(high - low);
  }

  private int wild() { return upTo(40) == 0 ? random.nextInt() : 0; }

  private void step(String name) throws Exception {
    int w = wild();
    switch (name) {
      case "person": call(name, near(0, 4) + w, near(0, 99)); break;
      case "of": call(name, person() + w, upTo(5) - 1); break;
      case "ticket": call(name, near(1, 99) + w, near(0, 4)); break;
      case "at": call(name, ticket() + w, upTo(4) - 1); break;
      case "wish": call(name, person(), ticket() + w, near(0, 9)); break;
      case "desk": call(name, upTo(2) == 0 ? 31 : near(0, 31) + w, near(1, 9)); break;
      case "asks": call(name, person(), ticket(), upTo(7) - 1 + w); break;
      case "terms": call(name, near(0, 2), upTo(3) == 0 ? near(990, 999) : near(0, 10) + w); break;
      case "force": call(name, upTo(7) - 1 + w); break;
      case "draw": call(name, ticket() + w, person()); break;
      case "swap": call(name, person() + w, person()); break;
      case "drop": call(name, person() + w); break;
      case "told": tell(w); break;
      case "day": call(name, person() + w, upTo(4) - 1); break;
      case "waiting": case "trade": call(name, upTo(3) == 0 ? -1 : person() + w); break;
      case "both": call(name, upTo(4) - 1 + w); break;
      case "take": case "drawn": call(name, person() + w); break;
      case "about": call(name, upTo(9) - 1 + w); break;
      case "desks": call(name, upTo(3) == 0 ? near(0, 999) : upTo(60), upTo(3) - 1 + w); break;
      case "had": call(name, upTo(2) == 0 ? -1 : upTo(5) - 1 + w, person()); break;
      case "ask": call(name, upTo(3) - 1 + w); break;
      case "few": call(name, near(1, 20), near(0, 99) + w); break;
      case "compare": call(name, upTo(7) - 1 + w); break;
      case "days": call(name, near(0, 1000000) + w, near(1, 60)); break;
      case "image": case "back": call(name, near(0, 1) + w); break;
      case "count": call(name, upTo(18) - 1 + w); break;
      case "feed": call(name, random.nextInt(), random.nextInt(), random.nextInt(), random.nextInt(), random.nextInt()); break;
      case "end": call(name, upTo(2) == 0 ? 0 : near(0, model.tape.length) + w); break;
      case "row": row(); break;
      case "law": if (text(new Texts(random, false).text())) { call("law"); call("fault"); } break;
      case "orders": if (text(new Texts(random, true).text())) { call("orders"); call("fault"); call("stopped"); } break;
      default: call(name); break;
    }
  }

  /** Most times what is so now, so that there are ways left. */
  private void tell(int w) throws Exception {
    int p = person();
    int done = upTo(3) == 0 ? near(0, 999) : model.day(p, 1);
    call("told", p + w, done < 0 ? near(0, 999) : done);
  }

  private void row() throws Exception {
    StringBuilder b = new StringBuilder();
    int n = upTo(7);
    for (int i = 0; i < n; i++) b.append((char) near(1, 99)).append((char) near(0, 4));
    if (upTo(2) == 0) b.append((char) 7);
    if (text(b.toString())) call("row");
    call("scraps");
  }

  private boolean text(String text) throws Exception {
    if (model.tape.length > 0 && upTo(30) > 0) call("end", 0);
    int from = model.tape.length;
    byte[] bytes = new byte[(text.length() + 19) / 20 * 20];
    for (int i = 0; i < text.length(); i++) bytes[i] = (byte) text.charAt(i);
    java.nio.ByteBuffer ints = java.nio.ByteBuffer.wrap(bytes);
    while (ints.remaining() > 0)
      if (call("feed", ints.getInt(), ints.getInt(), ints.getInt(), ints.getInt(), ints.getInt()) < 0) return upTo(1) == 0;
    call("end", from + text.length());
    return true;
  }

  private int run() throws Exception {
    int limit = 60 + upTo(450);
    int start = upTo(3);
    for (int i = 0; i < start * 6; i++) step(i % 3 == 0 ? "person" : i % 3 == 1 ? "ticket" : upTo(1) == 0 ? "desk" : "law");
    while (calls < limit - 25 && wrong == 0) {
      boolean reads = upTo(1) == 0;
      String[] names = reads ? READERS : CHANGERS;
      String name = names[random.nextInt(names.length)];
      // The model goes through all ways plainly, so it is asked for them a little more seldom.
      boolean dear = name.equals("about") || name.equals("had") || name.equals("ask");
      if (!dear || model.now.people.size() < 5 || upTo(2) == 0) step(name);
    }
    return wrong;
  }

  public static void main(String[] args) throws Exception {
    for (Method m : TicketHall.class.getDeclaredMethods()) hallMethods.put(m.getName(), m);
    for (Method m : HallModel.class.getDeclaredMethods())
      if (!java.lang.reflect.Modifier.isPrivate(m.getModifiers())) modelMethods.put(m.getName(), m);
    int bad = 0;
    long calls = 0;
    for (int seed = 0; seed < RUNS && bad < 3; seed++) {
      ModelRuns r = new ModelRuns(seed);
      if (r.run() > 0) {
        bad++;
        System.out.println("run " + seed + " is not as the model's");
      }
      calls += r.calls;
    }
    if (System.getenv("SHOW_ANSWERS") != null) new java.util.TreeMap<>(answers).forEach((k, v) -> System.out.println(k + ": " + v));
    System.out.println(bad == 0 ? calls + " calls are as the model's" : bad + " runs are not as the model's");
    if (bad > 0) System.exit(1);
  }
}
