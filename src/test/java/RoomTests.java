import java.lang.management.ManagementFactory;

/** All calls of a run live in one room, so calls make next to nothing, and the deepest texts stay shallow. */
public final class RoomTests {
  private static int wrong = 0;

  private static long made() {
    return ((com.sun.management.ThreadMXBean) ManagementFactory.getThreadMXBean()).getCurrentThreadAllocatedBytes();
  }

  private static void most(String what, long bytes, long most) {
    if (bytes > most) {
      wrong++;
      System.out.println(what + " made " + bytes + " bytes, " + most + " are the most");
    }
  }

  private static void feed(TicketHall x, int[] ints) {
    for (int i = 0; i + 4 < ints.length; i += 5) x.feed(ints[i], ints[i + 1], ints[i + 2], ints[i + 3], ints[i + 4]);
  }

  private static int[] ints(String text) {
    StringBuilder b = new StringBuilder(text);
    while (b.length() % 20 != 0) b.append(' ');
    int[] found = new int[b.length() / 4];
    for (int i = 0; i < b.length(); i++) found[i / 4] = found[i / 4] << 8 | b.charAt(i);
    return found;
  }

  private static TicketHall full() {
    TicketHall x = new TicketHall();
    for (int i = 0; i < 6; i++) x.person(i % 5, 10 * i);
    for (int i = 0; i < 8; i++) x.ticket(90 - i, i % 5);
    for (int i = 0; i < 3; i++) x.desk(31, i + 1);
    for (int i = 0; i < 6; i++) x.draw(i, i);
    return x;
  }

  private static long oneOfEach(TicketHall x) {
    long sum = x.of(0, 3) + x.asks(0, 0, 1) + x.day(0, 0) + x.waiting(-1) + x.about(1) + x.trade(-1) + x.both(-1) + x.take(0);
    sum += x.desks(30, 0) + x.told(0, 9) + x.had(-1, 0) + x.ask(0) + x.forget() + x.few(20, 99) + x.compare(-1) + x.days(7, 60);
    sum += x.drawn(0) + x.image(0) + x.back(0) + x.swap(0, 1) + x.drop(2) + x.draw(2, 2) + x.pass() + x.undo() + x.wish(0, 1, 3);
    return sum + x.count(2) + x.status() + x.terms(0, 5);
  }

  public static void main(String[] args) {
    long sum = oneOfEach(full());
    long ahead = made();
    TicketHall x = full();
    most("a new hall", made() - ahead, 20000);
    ahead = made();
    for (int i = 0; i < 18; i++) sum += oneOfEach(x);
    most("512 calls", made() - ahead, 1000);
    int[] law = ints("takes 1" + "+1".repeat(49) + ";fits;bars".repeat(5));
    int[] orders = ints("pass times 20;".repeat(11) + "pass");
    ahead = made();
    for (int i = 0; i < 6; i++) {
      feed(x, law);
      sum += x.law();
    }
    most("six laws", made() - ahead, 6 * 2000);
    ahead = made();
    for (int i = 0; i < 20; i++) {
      feed(x, orders);
      sum += x.orders() + x.terms(0, 0);
    }
    most("orders", made() - ahead, 1000);
    System.out.println(wrong == 0 ? "there is room (" + sum + ")" : wrong + " make too much");
    if (wrong != 0) System.exit(1);
  }
}
