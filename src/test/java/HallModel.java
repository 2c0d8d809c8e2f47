import java.math.BigInteger;
import java.util.ArrayList;
import java.util.HashMap;
import java.util.List;
import java.util.Map;
import java.util.TreeMap;

/** The document once more, written plainly with the whole Java library: what TicketHall is compared with. */
final class HallModel {
  static final class Broken extends RuntimeException {
    Broken() { super(null, null, false, false); }
  }

  static final class Fault extends RuntimeException {
    final int place;
    Fault(int place) { super(null, null, false, false); this.place = place; }
  }

  interface Sum { long of(Map<String, Long> words); }

  interface Test { boolean of(Map<String, Long> words); }

  static final class Clause {
    String verb;
    int times = 1;
    Test test = w -> true;
    List<Sum> sums = new ArrayList<>();

    /** Null, if it does not hold; a clause without a sum tells 0. */
    Long holds(Map<String, Long> words) {
      try {
        if (!test.of(words)) return null;
        return sums.isEmpty() ? 0L : sums.get(0).of(words);
      } catch (Broken b) {
        return null;
      }
    }
  }

  static final class Token {
    final int place;
    final String text;
    Token(int place, String text) { this.place = place; this.text = text; }
    boolean isNumber() { return !text.isEmpty() && Character.isDigit(text.charAt(0)); }
    int upTo(int low, int high) {
      if (!isNumber()) throw new Fault(place);
      BigInteger v = new BigInteger(text);
      if (v.compareTo(BigInteger.valueOf(low)) < 0 || v.compareTo(BigInteger.valueOf(high)) > 0) throw new Fault(place);
      return v.intValue();
    }
  }

  static final class Grammar {
    final List<Token> tokens = new ArrayList<>();
    final boolean orders;
    int next = 0, parts = 0, open = 0;

    Grammar(byte[] tape, boolean orders) {
      this.orders = orders;
      int i = 0;
      while (i < tape.length) {
        int from = i++;
        if (tape[from] == ' ') continue;
        int kind = kind(tape[from]);
        if (kind != 0) while (i < tape.length && kind(tape[i]) == kind) i++;
        StringBuilder b = new StringBuilder();
        for (int j = from; j < i; j++) b.append((char) (tape[j] & 255));
        tokens.add(new Token(from, b.toString()));
      }
      tokens.add(new Token(tape.length, ""));
    }

    static int kind(byte b) { return b >= 'a' && b <= 'z' ? 1 : b >= '0' && b <= '9' ? 2 : 0; }

    Token token() { return tokens.get(next); }

    boolean sees(String text) { return token().text.equals(text); }

    boolean eats(String text) {
      boolean yes = sees(text);
      if (yes) next++;
      return yes;
    }

    void must(String text) { if (!eats(text)) fail(); }

    void fail() { throw new Fault(token().place); }

    List<Clause> all() {
      List<Clause> found = new ArrayList<>();
      do {
        if (found.size() == 12) fail();
        found.add(clause());
      } while (eats(";"));
      if (!sees("")) fail();
      return found;
    }

    Clause clause() {
      Clause c = new Clause();
      c.verb = token().text;
      if (!(orders ? List.of("draw", "swap", "drop", "pass") : List.of("takes", "costs", "fits", "bars")).contains(c.verb)) fail();
      next++;
      switch (c.verb) {
        case "draw": c.sums.add(sum()); must("by"); c.sums.add(sum()); break;
        case "swap": c.sums.add(sum()); must("with"); c.sums.add(sum()); break;
        case "drop": case "takes": case "costs": c.sums.add(sum()); break;
        default: break;
      }
      if (orders && eats("times")) {
        c.times = token().upTo(1, 20);
        next++;
      }
      if (eats("if")) c.test = test();
      return c;
    }

    Test test() {
      Test left = both();
      while (eats("or")) {
        Test a = left, b = both();
        left = w -> a.of(w) || b.of(w);
      }
      return left;
    }

    Test both() {
      Test left = plain();
      while (eats("and")) {
        Test a = left, b = plain();
        left = w -> a.of(w) && b.of(w);
      }
      return left;
    }

    Test plain() {
      if (eats("not")) {
        Test a = plain();
        return w -> !a.of(w);
      }
      if (sees("(")) {
        enter();
        Test a = test();
        must(")");
        open--;
        return a;
      }
      Sum a = sum();
      String sign = token().text;
      if (!sign.equals("<") && !sign.equals(">") && !sign.equals("=")) fail();
      next++;
      Sum b = sum();
      return w -> {
        long x = a.of(w), y = b.of(w);
        return sign.equals("<") ? x < y : sign.equals(">") ? x > y : x == y;
      };
    }

    void enter() {
      if (open == 8) fail();
      open++;
      next++;
    }

    Sum sum() {
      Sum left = term();
      while (sees("+") || sees("-")) {
        boolean plus = sees("+");
        next++;
        Sum a = left, b = term();
        left = w -> within(plus ? a.of(w) + b.of(w) : a.of(w) - b.of(w));
      }
      return left;
    }

    Sum term() {
      Sum left = part();
      while (sees("*") || sees("/") || sees("%")) {
        String sign = token().text;
        next++;
        Sum a = left, b = part();
        left = w -> {
          long x = a.of(w), y = b.of(w);
          if (sign.equals("*")) return within(x * y);
          if (y == 0) throw new Broken();
          return within(sign.equals("/") ? x / y : x - x / y * y);
        };
      }
      return left;
    }

    static long within(long v) {
      if (Math.abs(v) > 1000000000L) throw new Broken();
      return v;
    }

    Sum part() {
      if (sees("[")) {
        enter();
        Sum a = sum();
        must("]");
        open--;
        return a;
      }
      if (parts == 50) fail();
      Token t = token();
      if (t.isNumber()) {
        long v = t.upTo(0, 1000);
        parts++;
        next++;
        return w -> v;
      }
      List<String> plainWords = orders ? List.of("minute", "done", "latest", "fit", "free")
          : List.of("person", "business", "patience", "ticket", "number", "kind", "speed", "minute", "mood");
      if (plainWords.contains(t.text)) {
        parts++;
        next++;
        return w -> w.get(t.text);
      }
      if (!orders || !t.text.equals("has") && !t.text.equals("patience")) fail();
      parts++;
      next++;
      int p = token().upTo(0, 5);
      next++;
      return w -> w.get(t.text + p);
    }
  }

  static final class Person {
    int business, patience, holds = -1;
    int[] wishes = new int[8];
    Person copy() {
      Person p = new Person();
      p.business = business; p.patience = patience; p.holds = holds; p.wishes = wishes.clone();
      return p;
    }
  }

  /** What images keep. */
  static final class World {
    List<Person> people = new ArrayList<>();
    List<int[]> tickets = new ArrayList<>();
    List<int[]> desks = new ArrayList<>();
    List<int[]> told = new ArrayList<>();
    int[] terms = {0, 9, 0};
    List<List<Clause>> laws = new ArrayList<>();
    int force = -1;

    World copy() {
      World w = new World();
      for (Person p : people) w.people.add(p.copy());
      w.tickets.addAll(tickets);
      w.desks.addAll(desks);
      w.told.addAll(told);
      w.terms = terms.clone();
      w.laws.addAll(laws);
      w.force = force;
      return w;
    }

    List<Clause> law() { return force < 0 ? List.of() : laws.get(force); }

    int holder(int ticket) {
      for (int p = 0; p < people.size(); p++) if (people.get(p).holds == ticket) return p;
      return -1;
    }

    Map<String, Long> words(int p, int t, int d) {
      Map<String, Long> w = new HashMap<>();
      w.put("person", (long) p);
      w.put("business", (long) people.get(p).business);
      w.put("patience", (long) people.get(p).patience);
      w.put("ticket", (long) t);
      w.put("number", t < 0 ? -1L : tickets.get(t)[0]);
      w.put("kind", t < 0 ? -1L : tickets.get(t)[1]);
      w.put("speed", d < 0 ? -1L : desks.get(d)[1]);
      w.put("minute", (long) terms[0]);
      w.put("mood", (long) terms[2]);
      return w;
    }

    static Long last(List<Clause> law, String verb, Map<String, Long> words) {
      Long found = null;
      for (Clause c : law) if (c.verb.equals(verb) && c.holds(words) != null) found = c.holds(words);
      return found;
    }

    int takes(List<Clause> law, int p, int t, int d) {
      Long v = last(law, "takes", words(p, t, d));
      return v == null ? 1 + 20 / desks.get(d)[1] : (int) Math.max(1, Math.min(60, v));
    }

    int costs(List<Clause> law, int p) {
      Long v = last(law, "costs", words(p, -1, -1));
      return v == null ? 1 : (int) Math.max(0, Math.min(9, v));
    }

    boolean fit(int p, int t) {
      return last(law(), "fits", words(p, t, -1)) != null || tickets.get(t)[1] == people.get(p).business;
    }

    boolean barred(int p, int t) { return last(law(), "bars", words(p, t, -1)) != null; }

    /** By person: begun, done, desk; null for one who is not called. */
    int[][] day(List<Clause> law, int[] holds, int open) {
      TreeMap<Integer, int[]> line = new TreeMap<>();
      for (int p = 0; p < holds.length; p++)
        if (holds[p] >= 0) line.put(tickets.get(holds[p])[0], new int[] {p, holds[p]});
      int[] free = new int[3];
      int[][] found = new int[holds.length][];
      for (int[] called : line.values()) {
        int best = -1;
        for (int d = desks.size() - 1; d >= 0; d--)
          if ((open & 1 << d) != 0 && (desks.get(d)[0] & 1 << tickets.get(called[1])[1]) != 0)
            if (best < 0 || free[d] <= free[best]) best = d;
        if (best < 0) continue;
        int begun = free[best];
        free[best] += takes(law, called[0], called[1], best);
        found[called[0]] = new int[] {begun, free[best], best};
      }
      return found;
    }

    int[] holds() { return people.stream().mapToInt(p -> p.holds).toArray(); }

    int wait(List<Clause> law, int[] holds, int[][] day, int p) {
      return holds[p] < 0 ? 0 : day[p] == null ? 1000 : costs(law, p) * day[p][0];
    }

    int waitOfAll(List<Clause> law, int[] holds) {
      int[][] day = day(law, holds, 7);
      int all = 0;
      for (int p = 0; p < holds.length; p++) all += wait(law, holds, day, p);
      return all;
    }

    List<int[]> ways(boolean barredToo) {
      List<int[]> found = new ArrayList<>();
      int[] row = new int[people.size()];
      waysFrom(0, row, found, barredToo);
      return found;
    }

    void waysFrom(int p, int[] row, List<int[]> found, boolean barredToo) {
      if (p == row.length) {
        found.add(row.clone());
        return;
      }
      if (people.get(p).holds < 0) {
        row[p] = -1;
        waysFrom(p + 1, row, found, barredToo);
        return;
      }
      for (int t = 0; t < tickets.size(); t++) {
        boolean taken = holder(t) < 0 || !barredToo && barred(p, t);
        for (int q = 0; q < p; q++) taken |= row[q] == t;
        if (taken) continue;
        row[p] = t;
        waysFrom(p + 1, row, found, barredToo);
      }
    }

    List<int[]> had() {
      List<int[]> found = new ArrayList<>();
      for (int[] way : ways(true)) {
        int[][] day = day(law(), way, 7);
        boolean good = true;
        for (int[] one : told) good &= day[one[0]] != null && day[one[0]][1] == one[1];
        if (good) found.add(way);
      }
      return found;
    }

    int draw(long t, long p) {
      if (t < 0 || t >= tickets.size() || p < 0 || p >= people.size()) return -2;
      if (people.get((int) p).holds >= 0 || holder((int) t) >= 0 || barred((int) p, (int) t)) return -3;
      people.get((int) p).holds = (int) t;
      return tickets.get((int) t)[0];
    }

    int swap(long a, long b) {
      if (a < 0 || a >= people.size() || b < 0 || b >= people.size()) return -2;
      Person one = people.get((int) a), other = people.get((int) b);
      if (a == b || one.holds < 0 || other.holds < 0 || barred((int) a, other.holds) || barred((int) b, one.holds)) return -3;
      int t = one.holds;
      one.holds = other.holds;
      other.holds = t;
      return one.holds;
    }

    int drop(long p) {
      if (p < 0 || p >= people.size()) return -2;
      int t = people.get((int) p).holds;
      if (t < 0) return -3;
      people.get((int) p).holds = -1;
      return t;
    }

    int pass() { return terms[0] == 999 ? -3 : ++terms[0]; }
  }

  World now = new World();
  final World[] images = new World[2];
  /** States ahead of acts, each with which act it was. */
  List<Object[]> undo = new ArrayList<>();
  byte[] tape = {};
  int fault = -1, scraps = 0, stopped = -1, status = 0;
  int[] latest = {-1, -1, -1, -1, -1, -1};
  final Map<Integer, Integer> refused = new HashMap<>();

  private int say(int answer) {
    status = 0;
    return answer;
  }

  private int no(int by) {
    status = by;
    refused.merge(by, 1, Integer::sum);
    return by;
  }

  private boolean isPerson(int p) { return p >= 0 && p < now.people.size(); }

  private boolean isTicket(int t) { return t >= 0 && t < now.tickets.size(); }

  private static boolean out(int v, int low, int high) { return v < low || v > high; }

  int person(int business, int patience) {
    if (out(business, 0, 4) || out(patience, 0, 99)) return no(-1);
    if (now.people.size() == 6) return no(-5);
    Person p = new Person();
    p.business = business;
    p.patience = patience;
    now.people.add(p);
    undo.clear();
    return say(now.people.size() - 1);
  }

  int of(int p, int what) {
    if (!isPerson(p)) return -1;
    Person one = now.people.get(p);
    return what == 0 ? one.business : what == 1 ? one.patience : what == 2 ? one.holds : what == 3 ? now.costs(now.law(), p) : -1;
  }

  private int newTicket(int number, int kind) {
    if (out(number, 1, 99) || out(kind, 0, 4)) return -1;
    if (now.tickets.stream().anyMatch(t -> t[0] == number)) return -3;
    if (now.tickets.size() == 8) return -5;
    now.tickets.add(new int[] {number, kind});
    return now.tickets.size() - 1;
  }

  int ticket(int number, int kind) {
    int r = newTicket(number, kind);
    if (r < 0) return no(r);
    undo.clear();
    return say(r);
  }

  int at(int t, int what) {
    if (!isTicket(t)) return -1;
    return what == 0 || what == 1 ? now.tickets.get(t)[what] : what == 2 ? now.holder(t) : -1;
  }

  int wish(int p, int t, int value) {
    if (out(value, 0, 9)) return no(-1);
    if (!isPerson(p) || !isTicket(t)) return no(-2);
    int was = now.people.get(p).wishes[t];
    now.people.get(p).wishes[t] = value;
    return say(was);
  }

  int desk(int opens, int speed) {
    if (out(opens, 0, 31) || out(speed, 1, 9)) return no(-1);
    if (now.desks.size() == 3) return no(-5);
    now.desks.add(new int[] {opens, speed});
    return say(now.desks.size() - 1);
  }

  int asks(int p, int t, int what) {
    if (!isPerson(p) || !isTicket(t)) return -1;
    if (what == 0) return now.people.get(p).wishes[t];
    if (what == 1) return now.fit(p, t) ? 1 : 0;
    if (what == 2) return now.barred(p, t) ? 1 : 0;
    return what >= 3 && what < 3 + now.desks.size() ? now.takes(now.law(), p, t, what - 3) : -1;
  }

  int terms(int what, int value) {
    if (out(what, 0, 2) || out(value, 0, what == 0 ? 999 : what == 1 ? 10 : 9)) return no(-1);
    int was = now.terms[what];
    now.terms[what] = value;
    undo.clear();
    return say(was);
  }

  int feed(int a, int b, int c, int d, int e) {
    if (tape.length + 20 > 400) return -1;
    java.nio.ByteBuffer more = java.nio.ByteBuffer.allocate(tape.length + 20);
    more.put(tape).putInt(a).putInt(b).putInt(c).putInt(d).putInt(e);
    tape = more.array();
    return tape.length;
  }

  int end(int n) {
    if (n < 0 || n > tape.length) return -1;
    tape = java.util.Arrays.copyOf(tape, n);
    return n;
  }

  int row() {
    if (tape.length == 0) return no(-6);
    int came = 0;
    scraps = 0;
    for (int i = 0; i < tape.length; i += 2) {
      if (i + 1 == tape.length || newTicket(tape[i] & 255, tape[i + 1] & 255) < 0) scraps++;
      else came++;
    }
    tape = new byte[0];
    undo.clear();
    return say(came);
  }

  int scraps() { return scraps; }

  private List<Clause> read(boolean orders) {
    byte[] text = tape;
    tape = new byte[0];
    fault = -1;
    try {
      return new Grammar(text, orders).all();
    } catch (Fault f) {
      fault = f.place;
      return null;
    }
  }

  int law() {
    if (now.laws.size() == 6) {
      tape = new byte[0];
      return no(-5);
    }
    List<Clause> law = read(false);
    if (law == null) return no(-6);
    now.laws.add(law);
    return say(now.laws.size() - 1);
  }

  private Map<String, Long> orderWords(int done, int told) {
    Map<String, Long> w = new HashMap<>();
    w.put("minute", (long) now.terms[0]);
    w.put("done", (long) done);
    w.put("latest", (long) told);
    long fit = 0, free = 0;
    for (int p = 0; p < now.people.size(); p++)
      if (now.people.get(p).holds >= 0 && now.fit(p, now.people.get(p).holds)) fit++;
    for (int t = 0; t < now.tickets.size(); t++) if (now.holder(t) < 0) free++;
    w.put("fit", fit);
    w.put("free", free);
    for (int p = 0; p < 6; p++) {
      w.put("has" + p, isPerson(p) ? (long) now.people.get(p).holds : -1L);
      w.put("patience" + p, isPerson(p) ? (long) now.people.get(p).patience : -1L);
    }
    return w;
  }

  private int act(String verb, long a, long b) {
    World ahead = now.copy();
    int r = verb.equals("draw") ? now.draw(a, b) : verb.equals("swap") ? now.swap(a, b) : verb.equals("drop") ? now.drop(a) : now.pass();
    if (r >= 0) {
      undo.add(new Object[] {ahead.holds(), ahead.terms[0], List.of("draw", "swap", "drop", "pass").indexOf(verb)});
      if (undo.size() > 16) undo.remove(0);
    }
    return r;
  }

  int orders() {
    stopped = -1;
    List<Clause> text = read(true);
    if (text == null) return no(-6);
    World ahead = now.copy();
    List<Object[]> undoAhead = new ArrayList<>(undo);
    int done = 0, told = -1;
    for (int c = 0; c < text.size(); c++) {
      Clause clause = text.get(c);
      for (int i = 0; i < clause.times; i++) {
        Map<String, Long> words = orderWords(done, told);
        boolean so;
        try {
          so = clause.test.of(words);
        } catch (Broken b) {
          so = false;
        }
        if (!so) continue;
        int r;
        try {
          long a = clause.sums.size() > 0 ? clause.sums.get(0).of(words) : 0;
          long b = clause.sums.size() > 1 ? clause.sums.get(1).of(words) : 0;
          r = act(clause.verb, a, b);
        } catch (Broken b) {
          r = -3;
        }
        if (r < 0) {
          now = ahead;
          undo = undoAhead;
          stopped = c;
          return no(-3);
        }
        if (clause.verb.equals("draw")) told = r;
        done++;
      }
    }
    return say(done);
  }

  int fault() { return fault; }

  int stopped() { return stopped; }

  int force(int law) {
    if (law != -1 && out(law, 0, now.laws.size() - 1)) return no(-2);
    int was = now.force;
    now.force = law;
    return say(was);
  }

  private int acted(String verb, int a, int b) {
    int r = act(verb, a, b);
    return r < 0 ? no(r) : say(r);
  }

  int draw(int t, int p) { return acted("draw", t, p); }

  int swap(int a, int b) { return acted("swap", a, b); }

  int drop(int p) { return acted("drop", p, 0); }

  int pass() { return acted("pass", 0, 0); }

  int undo() {
    if (undo.isEmpty()) return no(-3);
    Object[] latestAct = undo.remove(undo.size() - 1);
    int[] holds = (int[]) latestAct[0];
    for (int p = 0; p < holds.length; p++) now.people.get(p).holds = holds[p];
    now.terms[0] = (Integer) latestAct[1];
    return say((Integer) latestAct[2]);
  }

  int day(int p, int what) {
    if (!isPerson(p) || out(what, 0, 2)) return -1;
    int[] one = now.day(now.law(), now.holds(), 7)[p];
    return one == null ? -1 : one[what];
  }

  int waiting(int p) {
    if (p == -1) return now.waitOfAll(now.law(), now.holds());
    if (!isPerson(p) || now.people.get(p).holds < 0) return -1;
    return now.wait(now.law(), now.holds(), now.day(now.law(), now.holds(), 7), p);
  }

  int about(int what) {
    int[] best = null;
    int bestFit = 0, bestAll = 0;
    for (int[] way : now.ways(false)) {
      int fit = 0;
      for (int p = 0; p < way.length; p++) if (way[p] >= 0 && now.fit(p, way[p])) fit++;
      int all = now.waitOfAll(now.law(), way);
      if (best == null || fit > bestFit || fit == bestFit && all < bestAll) {
        best = way;
        bestFit = fit;
        bestAll = all;
      }
    }
    if (best == null) return -1;
    return what == 0 ? bestFit : what == 1 ? bestAll : what >= 2 && isPerson(what - 2) ? best[what - 2] : -1;
  }

  int trade(int person) {
    Map<Integer, Integer> left = new TreeMap<>();
    for (int p = 0; p < now.people.size(); p++) if (now.people.get(p).holds >= 0) left.put(p, now.people.get(p).holds);
    int[] gets = {-1, -1, -1, -1, -1, -1};
    int rings = 0;
    while (!left.isEmpty()) {
      // One ring at a time: the order in which rings leave does not matter.
      Map<Integer, Integer> at = new HashMap<>();
      for (int p : left.keySet()) {
        int best = -1, wish = -1;
        for (int t = 0; t < now.tickets.size(); t++) {
          if (!left.containsValue(t) || left.get(p) != t && now.barred(p, t)) continue;
          if (now.people.get(p).wishes[t] > wish) {
            wish = now.people.get(p).wishes[t];
            best = t;
          }
        }
        at.put(p, best);
      }
      int p = left.keySet().iterator().next();
      List<Integer> seen = new ArrayList<>();
      while (!seen.contains(p)) {
        seen.add(p);
        p = now.holder(at.get(p));
      }
      rings++;
      for (int q : seen.subList(seen.indexOf(p), seen.size())) {
        gets[q] = at.get(q);
        left.remove(q);
      }
    }
    return person == -1 ? rings : isPerson(person) ? gets[person] : -1;
  }

  int both(int i) {
    List<Integer> twos = new ArrayList<>();
    for (int a = 0; a < now.people.size(); a++)
      for (int b = a + 1; b < now.people.size(); b++) {
        Person one = now.people.get(a), other = now.people.get(b);
        if (one.holds < 0 || other.holds < 0 || now.barred(a, other.holds) || now.barred(b, one.holds)) continue;
        if (one.wishes[other.holds] > one.wishes[one.holds] && other.wishes[one.holds] > other.wishes[other.holds]) twos.add(10 * a + b);
      }
    return i == -1 ? twos.size() : out(i, 0, twos.size() - 1) ? -1 : twos.get(i);
  }

  int take(int p) {
    if (!isPerson(p) || now.people.get(p).holds >= 0) return -1;
    int best = -1, done = 0;
    for (int t = 0; t < now.tickets.size(); t++) {
      if (now.holder(t) >= 0 || now.barred(p, t)) continue;
      int[] holds = now.holds();
      holds[p] = t;
      int[] mine = now.day(now.law(), holds, 7)[p];
      if (mine != null && (best < 0 || mine[1] < done)) {
        best = t;
        done = mine[1];
      }
    }
    return best;
  }

  int desks(int minute, int what) {
    if (out(minute, 0, 999) || out(what, 0, 1)) return -1;
    int best = -1;
    for (int open = 0; open < 1 << now.desks.size(); open++) {
      int[] holds = now.holds();
      int[][] day = now.day(now.law(), holds, open);
      boolean good = true;
      for (int p = 0; p < holds.length; p++) good &= holds[p] < 0 || day[p] != null && day[p][1] <= minute;
      if (good && (best < 0 || Integer.bitCount(open) < Integer.bitCount(best))) best = open;
    }
    return best < 0 ? -1 : what == 0 ? Integer.bitCount(best) : best;
  }

  int told(int p, int minute) {
    if (out(minute, 0, 999)) return no(-1);
    if (!isPerson(p)) return no(-2);
    if (now.told.size() == 6) return no(-5);
    now.told.add(new int[] {p, minute});
    return say(now.told.size());
  }

  int forget() {
    int was = now.told.size();
    now.told.clear();
    return was;
  }

  int had(int i, int p) {
    List<int[]> ways = now.had();
    if (i == -1) return ways.size();
    return out(i, 0, ways.size() - 1) || !isPerson(p) ? -1 : ways.get(i)[p];
  }

  int ask(int what) {
    List<int[]> ways = now.had();
    int best = -1, least = -1;
    if (ways.isEmpty()) return -1;
    for (int p = 0; p < now.people.size(); p++) {
      if (now.people.get(p).holds < 0) continue;
      Map<Integer, Integer> tally = new HashMap<>();
      for (int[] way : ways) tally.merge(way[p], 1, Integer::sum);
      int most = java.util.Collections.max(tally.values());
      if (best < 0 || most < least) {
        best = p;
        least = most;
      }
    }
    return what == 0 ? best : what == 1 ? least : -1;
  }

  long few(int k, int n) {
    if (out(k, 1, 20) || out(n, 0, 99)) return -1;
    long[] chance = {1000000000000L};
    for (int i = 0; i < n; i++) {
      long[] next = new long[chance.length + 1];
      for (int j = 0; j < chance.length; j++) {
        next[j] += chance[j] * (10 - now.terms[1]) / 10;
        next[j + 1] += chance[j] * now.terms[1] / 10;
      }
      chance = next;
    }
    long sum = 0;
    for (int j = 0; j < k && j < chance.length; j++) sum += chance[j];
    return sum;
  }

  int compare(int law) {
    if (law != -1 && out(law, 0, now.laws.size() - 1)) return -1;
    return now.waitOfAll(law == -1 ? List.of() : now.laws.get(law), now.holds());
  }

  int days(int seed, int n) {
    if (out(seed, 0, 1000000) || out(n, 1, 60)) return no(-1);
    if (now.people.isEmpty() || now.tickets.isEmpty()) return no(-3);
    World paper = now.copy();
    int[] s = {seed};
    java.util.function.IntUnaryOperator draw = m -> {
      s[0] = BigInteger.valueOf(s[0]).multiply(BigInteger.valueOf(1103)).add(BigInteger.valueOf(12345)).mod(BigInteger.valueOf(1000003)).intValue();
      return s[0] % m;
    };
    int changed = 0;
    for (int i = 0; i < n; i++) {
      if (paper.terms[0] == 999) break;
      int p = draw.applyAsInt(paper.people.size()), t = draw.applyAsInt(paper.tickets.size()), what = draw.applyAsInt(3);
      int r = what == 0 ? paper.draw(t, p) : what == 1 ? paper.swap(p, paper.holder(t)) : paper.drop(p);
      if (r >= 0) changed++;
      paper.pass();
    }
    java.util.Arrays.fill(latest, -1);
    for (int p = 0; p < paper.people.size(); p++) latest[p] = paper.people.get(p).holds;
    return say(changed);
  }

  int drawn(int p) { return out(p, 0, latest.length - 1) ? -1 : latest[p]; }

  int image(int k) {
    if (out(k, 0, 1)) return no(-1);
    images[k] = now.copy();
    return say(0);
  }

  int back(int k) {
    if (out(k, 0, 1)) return no(-1);
    if (images[k] == null) return no(-2);
    now = images[k].copy();
    undo.clear();
    return say(0);
  }

  int count(int what) {
    switch (what) {
      case 0: return now.people.size();
      case 1: return now.tickets.size();
      case 2: return (int) now.people.stream().filter(p -> p.holds >= 0).count();
      case 3: return now.desks.size();
      case 4: return now.told.size();
      case 5: return now.laws.size();
      case 6: return undo.size();
      case 7: return tape.length;
      case 8: case 9: case 10: return refused.getOrDefault(7 - what, 0);
      case 11: return refused.getOrDefault(-5, 0);
      case 12: return refused.getOrDefault(-6, 0);
      case 13: return now.force;
      case 14: case 15: case 16: return now.terms[what - 14];
      default: return -1;
    }
  }

  int status() { return status; }
}
