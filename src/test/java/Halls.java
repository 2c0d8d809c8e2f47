import java.util.function.IntUnaryOperator;
import java.util.function.ToIntFunction;

/** What tests share: halls to begin with, texts brought to the tape, and answers compared with those that are due. */
abstract class Halls {
  private static final int[] REFUSALS = {-1, -2, -3, -5, -6};

  static int wrong = 0;
  static int asked = 0;
  /** What the answers are about that are asked for now. */
  static String topic = "";

  static void due(String what, long got, long want) {
    asked++;
    if (got != want) {
      wrong++;
      System.out.println(topic + ": " + what + ": answered " + got + ", due is " + want);
    }
  }

  static void alike(String what, String got, String want) {
    asked++;
    if (!got.equals(want)) {
      wrong++;
      System.out.println(topic + ": " + what + ": is " + got + ", due is " + want);
    }
  }

  static void text(TicketHall x, String text) {
    x.end(0);
    byte[] bytes = new byte[(text.length() + 19) / 20 * 20];
    for (int i = 0; i < text.length(); i++) bytes[i] = (byte) text.charAt(i);
    java.nio.ByteBuffer b = java.nio.ByteBuffer.wrap(bytes);
    while (b.remaining() > 0) x.feed(b.getInt(), b.getInt(), b.getInt(), b.getInt(), b.getInt());
    x.end(text.length());
  }

  static void bytes(TicketHall x, int... bytes) {
    char[] signs = new char[bytes.length];
    for (int i = 0; i < bytes.length; i++) signs[i] = (char) bytes[i];
    text(x, new String(signs));
  }

  static int law(TicketHall x, String text) {
    text(x, text);
    return x.law();
  }

  static int orders(TicketHall x, String text) {
    text(x, text);
    return x.orders();
  }

  static void force(TicketHall x, String text) {
    x.force(law(x, text));
  }

  /** Where a law's or orders' first wrong token is; -1 without, and -9 if that is not what the call said. */
  static int faultOfLaw(String text) {
    TicketHall x = new TicketHall();
    int r = law(x, text);
    return r == (x.fault() < 0 ? 0 : -6) ? x.fault() : -9;
  }

  static int faultOfOrders(String text) {
    TicketHall x = new TicketHall();
    int r = orders(x, text);
    return (r == -6) == (x.fault() >= 0) ? x.fault() : -9;
  }

  /** Whether a test, asked for person 3 with ticket 2 (number 30, kind 1), is so: what "bars" says. */
  static int isSo(String test) {
    TicketHall x = new TicketHall();
    for (int p = 0; p < 4; p++) x.person(p, 10 * p + 5);
    x.ticket(10, 0);
    x.ticket(20, 4);
    x.ticket(30, 1);
    x.terms(0, 77);
    x.terms(2, 6);
    force(x, "bars if " + test);
    return x.fault() >= 0 ? -9 : x.asks(3, 2, 2);
  }

  /** n people of business 0 and n tickets of numbers 1 .. n, kind 0; person p holds ticket p. */
  static TicketHall held(int n) {
    TicketHall x = new TicketHall();
    for (int i = 0; i < n; i++) {
      x.person(0, 10 + i);
      x.ticket(i + 1, 0);
    }
    for (int i = 0; i < n; i++) x.draw(i, i);
    return x;
  }

  /** Numbers 30, 10, 20, 40, 50 of kinds 0, 0, 1, 0, 2 held by people 0 .. 4; desks: kinds 0 and 1 at 4, kind 0 at 2, kind 3. */
  static TicketHall busy() {
    TicketHall x = new TicketHall();
    int[] numbers = {30, 10, 20, 40, 50}, kinds = {0, 0, 1, 0, 2};
    for (int i = 0; i < 5; i++) {
      x.person(i, i);
      x.ticket(numbers[i], kinds[i]);
      x.draw(i, i);
    }
    x.desk(3, 4);
    x.desk(1, 2);
    x.desk(8, 9);
    return x;
  }

  /** As many people, tickets, desks, told and laws as there can be; tickets 0 and 1 are held by people 0 and 1. */
  static TicketHall full() {
    TicketHall x = new TicketHall();
    for (int i = 0; i < 6; i++) x.person(i % 5, i);
    for (int i = 0; i < 8; i++) x.ticket(10 + i, i % 5);
    for (int i = 0; i < 3; i++) x.desk(31, i + 1);
    for (int i = 0; i < 6; i++) x.told(i, i);
    for (int i = 0; i < 6; i++) law(x, "fits");
    x.draw(0, 0);
    x.draw(1, 1);
    return x;
  }

  /** All that images keep and what can be undone, as calls tell it. */
  static String state(TicketHall x) {
    StringBuilder b = new StringBuilder();
    for (int what = 0; what <= 16; what++) if (what < 7 || what > 12) b.append(x.count(what)).append(' ');
    int people = x.count(0), tickets = x.count(1);
    for (int p = 0; p < people; p++) {
      b.append("| ").append(x.of(p, 0)).append(' ').append(x.of(p, 1)).append(' ').append(x.of(p, 2)).append(' ').append(x.day(p, 1));
      for (int t = 0; t < tickets; t++) b.append(' ').append(x.asks(p, t, 0));
    }
    for (int t = 0; t < tickets; t++) b.append("| ").append(x.at(t, 0)).append(' ').append(x.at(t, 1)).append(' ').append(x.at(t, 2));
    return b.toString();
  }

  /** What images do not keep: the tape, scraps, fault, where orders stopped, the latest days. */
  static String marks(TicketHall x) {
    String marks = x.count(7) + " " + x.scraps() + " " + x.fault() + " " + x.stopped();
    for (int p = 0; p < 6; p++) marks += " " + x.drawn(p);
    return marks;
  }

  private static int[] refusedSoFar(TicketHall x) {
    int[] counts = new int[5];
    for (int i = 0; i < 5; i++) counts[i] = x.count(8 + i);
    return counts;
  }

  /** A call that is refused: its answer, the status, the one count that rises; and all else is as it was. */
  static void refuses(String what, TicketHall x, int by, ToIntFunction<TicketHall> call) {
    String marks = marks(x);
    refusesText(what, x, by, call);
    alike(what + ", what images do not keep", marks(x), marks);
  }

  /** As refuses(), for a call that reads the tape: that, the fault and where it stopped are its own. */
  static void refusesText(String what, TicketHall x, int by, ToIntFunction<TicketHall> call) {
    String state = state(x);
    int[] ahead = refusedSoFar(x);
    due(what, call.applyAsInt(x), by);
    due(what + ", status", x.status(), by);
    int[] behind = refusedSoFar(x);
    for (int i = 0; i < 5; i++) due(what + ", refused by " + REFUSALS[i], behind[i] - ahead[i], REFUSALS[i] == by ? 1 : 0);
    alike(what + ", all else", state(x), state);
  }

  /** A number that may be low .. high: answers are below 0 just for those outside, and then as told. */
  static void range(String what, int low, int high, int outside, IntUnaryOperator call) {
    int[] inside = {low, low + 1, high - 1, high};
    for (int v : inside) due(what + " " + v + " can be", call.applyAsInt(v) >= 0 ? 1 : 0, 1);
    int[] beyond = {low - 1, high + 1, Integer.MIN_VALUE, Integer.MAX_VALUE, low - 256, high + 256};
    for (int v : beyond) due(what + " " + v + " can't be", call.applyAsInt(v), outside);
  }
}
