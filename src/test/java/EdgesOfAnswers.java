/** Promises 24 to 42: what a hall is asked for, days, images, counts and the status. */
final class EdgesOfAnswers extends Halls {
  private static final int MIN = Integer.MIN_VALUE, MAX = Integer.MAX_VALUE;

  @Says(in = "Promise 24", value = {"A DAY: of a PERSON when it is begun (what 0), done (1), at which DESK (2).", "NONE (it is not called; it holds none)."})
  static void day() {
    TicketHall x = held(2);
    for (int what = 0; what < 3; what++) due("not called, what " + what, x.day(0, what), -1);
    x.desk(0, 1);
    x.desk(1, 1);
    int[] first = {0, 21, 1}, second = {21, 42, 1};
    for (int what = 0; what < 3; what++) {
      due("the first, what " + what, x.day(0, what), first[what]);
      due("the second, what " + what, x.day(1, what), second[what]);
      for (int bad : new int[] {-1, 2, MIN, MAX}) due("person " + bad + ", what " + what, x.day(bad, what), -1);
    }
    for (int bad : new int[] {-1, 3, MIN, MAX}) due("what " + bad, x.day(0, bad), -1);
    x.drop(1);
    for (int what = 0; what < 3; what++) due("holds none, what " + what, x.day(1, what), -1);
  }

  @Says(in = "Promise 25", value = {"WAITING of a PERSON, of ALL (NONE).", "NONE (no such PERSON; it holds none)."})
  static void waiting() {
    TicketHall x = held(2);
    x.person(0, 0);
    x.desk(1, 1);
    due("the first", x.waiting(0), 0);
    due("the second", x.waiting(1), 21);
    due("all", x.waiting(-1), 21);
    due("holds none", x.waiting(2), -1);
    for (int bad : new int[] {-2, 3, MIN, MAX}) due("person " + bad, x.waiting(bad), -1);
    due("all of nobody", new TicketHall().waiting(-1), 0);
  }

  @Says(in = "Promise 26", value = {"ABOUT: how many are FIT (what 0), ALL then (1), the TICKET of PERSON p (2 + p; NONE: it holds none).", "NONE (no such way)."})
  static void about() {
    TicketHall x = held(6);
    x.drop(3);
    due("fit", x.about(0), 5);
    due("all", x.about(1), 5000);
    int[] tickets = {0, 1, 2, -1, 4, 5};
    for (int p = 0; p < 6; p++) due("person " + p, x.about(2 + p), tickets[p]);
    for (int bad : new int[] {-1, 8, 9, MIN, MAX}) due("what " + bad, x.about(bad), -1);
    due("no such person", held(1).about(3), -1);
    TicketHall y = new TicketHall();
    for (int p = 0; p < 6; p++) y.person(0, 0);
    y.ticket(1, 0);
    y.draw(0, 5);
    due("the last of six people, the only ticket", y.about(7), 0);
    due("the first one holds none", y.about(2), -1);
    force(x, "bars if person = 5");
    for (int what = -1; what <= 8; what++) due("no such way, what " + what, x.about(what), -1);
  }

  @Says(in = "Promise 27", value = {"A TRADE: RINGS (person NONE), the TICKET of a PERSON behind it.", "NONE (it holds none)."})
  static void trade() {
    TicketHall x = held(3);
    x.wish(0, 1, 9);
    x.wish(1, 0, 9);
    x.drop(2);
    due("rings", x.trade(-1), 1);
    due("the first", x.trade(0), 1);
    due("the second", x.trade(1), 0);
    due("holds none", x.trade(2), -1);
    for (int bad : new int[] {-2, 3, MIN, MAX}) due("person " + bad, x.trade(bad), -1);
    due("nobody: no rings", new TicketHall().trade(-1), 0);
  }

  @Says(in = "Promise 28", value = {"BOTH: how many twos (i NONE), the i-th as ten times the lower and the higher one.", "NONE."})
  static void both() {
    TicketHall x = held(6);
    x.wish(0, 1, 1);
    x.wish(1, 0, 1);
    x.wish(4, 5, 9);
    x.wish(5, 4, 9);
    due("how many", x.both(-1), 2);
    due("the first", x.both(0), 1);
    due("the second", x.both(1), 45);
    for (int bad : new int[] {-2, 2, 3, MIN, MAX}) due("two " + bad, x.both(bad), -1);
    due("nobody: none", new TicketHall().both(-1), 0);
    due("nobody: no first", new TicketHall().both(0), -1);
  }

  @Says(in = "Promise 29", value = {"To TAKE: the TICKET.", "NONE (no such PERSON, it holds one; none)."})
  static void take() {
    TicketHall x = held(1);
    x.desk(31, 1);
    x.person(0, 0);
    due("none", x.take(1), -1);
    x.ticket(50, 0);
    due("the ticket", x.take(1), 1);
    due("it holds one", x.take(0), -1);
    for (int bad : new int[] {-1, 2, MIN, MAX}) due("person " + bad, x.take(bad), -1);
    due("nobody is there", new TicketHall().take(0), -1);
  }

  @Says(in = "Promise 30", value = {"DESKS by a MINUTE 0 .. 999: how many (what 0), which, as bits (1).", "NONE (not by all)."})
  static void desks() {
    range("minute", 0, 999, -1, v -> new TicketHall().desks(v, 0));
    TicketHall x = held(2);
    x.desk(0, 9);
    x.desk(1, 1);
    due("how many", x.desks(42, 0), 1);
    due("which", x.desks(42, 1), 2);
    due("not by all", x.desks(41, 0), -1);
    due("nor which", x.desks(41, 1), -1);
    for (int bad : new int[] {-1, 2, MIN, MAX}) due("what " + bad, x.desks(42, bad), -1);
    due("at the last minute", x.desks(999, 1), 2);
  }

  @Says(in = "Promise 31", value = {"TOLD: how often there was.", "-1", "-2", "-5."})
  static void told() {
    TicketHall x = held(1);
    for (int i = 1; i <= 6; i++) due("how often", x.told(0, 999), i);
    refuses("no room", x, -5, h -> h.told(0, 999));
    for (int bad : new int[] {-1, 1000, MIN, MAX}) refuses("minute " + bad, held(1), -1, h -> h.told(0, bad));
    for (int bad : new int[] {-1, 1, MIN, MAX}) refuses("person " + bad, held(1), -2, h -> h.told(bad, 0));
  }

  @Says(in = "Promise 32", value = "TOLD is nothing then: how often there was.")
  static void forget() {
    TicketHall x = held(2);
    due("nothing", x.forget(), 0);
    for (int i = 0; i < 6; i++) x.told(0, 5);
    due("no way", x.had(-1, 0), 0);
    due("six", x.forget(), 6);
    due("nothing then", x.count(4), 0);
    due("all ways again", x.had(-1, 0), 2);
    due("nothing again", x.forget(), 0);
    due("room again", x.told(1, 0), 1);
  }

  @Says(in = "Promise 33", value = {"HAD: how many ways (i NONE), in the i-th the TICKET of a PERSON.", "NONE."})
  static void had() {
    TicketHall x = held(2);
    x.person(0, 0);
    for (int any : new int[] {-1, 0, 9, MIN, MAX}) due("how many, person " + any, x.had(-1, any), 2);
    due("the first", x.had(0, 0), 0);
    due("the second", x.had(1, 0), 1);
    for (int bad : new int[] {-2, 2, 720, MIN, MAX}) due("way " + bad, x.had(bad, 0), -1);
    for (int bad : new int[] {-1, 3, 6, MIN, MAX}) due("person " + bad, x.had(0, bad), -1);
    due("one who holds none", x.had(0, 2), -1);
    x.told(0, 1);
    due("no ways", x.had(-1, 0), 0);
    due("no first", x.had(0, 0), -1);
  }

  @Says(in = "Promise 34", value = {"To ASK: the PERSON (what 0), how many ways are left at most (1).", "NONE (no ways; nobody holds one)."})
  static void ask() {
    TicketHall x = held(3);
    due("the person", x.ask(0), 0);
    due("how many at most", x.ask(1), 2);
    for (int bad : new int[] {-1, 2, MIN, MAX}) due("what " + bad, x.ask(bad), -1);
    x.told(0, 0);
    due("no ways", x.ask(0), -1);
    due("none left", x.ask(1), -1);
    TicketHall y = new TicketHall();
    due("nobody", y.ask(0), -1);
    y.person(0, 0);
    y.ticket(1, 0);
    due("nobody holds one", y.ask(0), -1);
    due("nor how many", y.ask(1), -1);
  }

  @Says(in = "Promise 35", value = {"FEW, k 1 .. 20, n 0 .. 99.", "NONE."})
  static void few() {
    range("k", 1, 20, -1, k -> new TicketHall().few(k, 99) >= 0 ? 1 : -1);
    range("n", 0, 99, -1, n -> new TicketHall().few(20, n) >= 0 ? 1 : -1);
    due("the least", new TicketHall().few(1, 0), 1000000000000L);
    due("none", new TicketHall().few(0, 0), -1);
    due("refused is another thing", new TicketHall().count(8), 0);
  }

  @Says(in = "Promise 36", value = {"COMPARED.", "NONE (no such LAW)."})
  static void compare() {
    TicketHall x = held(2);
    x.desk(1, 1);
    due("none", x.compare(-1), 21);
    for (int bad : new int[] {-2, 0, 1, MIN, MAX}) due("law " + bad, x.compare(bad), -1);
    for (int i = 0; i < 6; i++) law(x, "costs " + i);
    for (int i = 0; i < 6; i++) due("law " + i, x.compare(i), 21 * i);
    due("no seventh", x.compare(6), -1);
  }

  @Says(in = "Promise 37", value = {"DAYS, kept as the latest: how many changed something (the MINUTE aside).", "-1", "-3 there are no PEOPLE, no TICKETS."})
  static void days() {
    TicketHall x = held(1);
    x.terms(0, 999);
    due("no time: nothing changed", x.days(0, 60), 0);
    due("kept as the latest", x.drawn(0), 0);
    // 0 becomes 12345, 628841, 621889: a swap, which one alone can't do.
    x.terms(0, 0);
    due("a swap that can't be changes nothing", x.days(0, 1), 0);
    due("the minute stays", x.count(14), 0);
    for (int bad : new int[] {-1, 1000001, MIN, MAX}) refuses("seed " + bad, held(1), -1, h -> h.days(bad, 1));
    for (int bad : new int[] {0, 61, -1, MIN, MAX}) refuses("n " + bad, held(1), -1, h -> h.days(0, bad));
    refuses("nothing at all", new TicketHall(), -3, h -> h.days(0, 1));
    TicketHall people = new TicketHall();
    people.person(0, 0);
    refuses("no tickets", people, -3, h -> h.days(0, 1));
    TicketHall tickets = new TicketHall();
    tickets.ticket(1, 0);
    refuses("no people", tickets, -3, h -> h.days(0, 1));
  }

  @Says(in = "Promise 38", value = {"Behind the latest DAYS the TICKET a PERSON holds.", "NONE (none, too)."})
  static void drawn() {
    TicketHall x = held(6);
    for (int p = 0; p < 6; p++) due("no days yet", x.drawn(p), -1);
    x.drop(5);
    x.terms(0, 999);
    x.days(0, 1);
    for (int p = 0; p < 6; p++) due("person " + p, x.drawn(p), p == 5 ? -1 : p);
    for (int bad : new int[] {-1, 6, MIN, MAX}) due("person " + bad, x.drawn(bad), -1);
    x.drop(0);
    due("as it was behind the days", x.drawn(0), 0);
    x.days(0, 0);
    due("refused ones are not the latest", x.drawn(0), 0);
    x.days(0, 1);
    due("the latest", x.drawn(0), -1);
    TicketHall y = held(1);
    y.terms(0, 999);
    y.days(0, 1);
    y.person(0, 0);
    y.ticket(9, 0);
    y.draw(1, 1);
    due("one who came behind", y.drawn(1), -1);
  }

  @Says(in = "Promise 39", value = {"IMAGE k is kept: 0", "-1."})
  static void image() {
    TicketHall x = held(1);
    due("the first", x.image(0), 0);
    due("the second", x.image(1), 0);
    due("again", x.image(0), 0);
    for (int bad : new int[] {-1, 2, MIN, MAX}) refuses("image " + bad, held(1), -1, h -> h.image(bad));
    due("two there are", x.back(0) + x.back(1), 0);
  }

  @Says(in = "Promise 40", value = {"BACK to IMAGE k: 0.", "-1", "-2 it was not kept."})
  static void back() {
    TicketHall x = held(1);
    refuses("the first was not kept", x, -2, h -> h.back(0));
    refuses("nor the second", x, -2, h -> h.back(1));
    x.image(1);
    refuses("the first still was not", x, -2, h -> h.back(0));
    x.drop(0);
    due("the second was", x.back(1), 0);
    due("as it was", x.of(0, 2), 0);
    for (int bad : new int[] {-1, 2, MIN, MAX}) refuses("image " + bad, held(1), -1, h -> h.back(bad));
    TicketHall y = new TicketHall();
    y.image(0);
    y.person(0, 0);
    due("an empty one", y.back(0), 0);
    due("empty", y.count(0), 0);
  }

  @Says(in = "Promise 41", value = {"0 PEOPLE, 1 TICKETS, 2 how many of these are held, 3 DESKS, 4 TOLD, 5 LAWS, 6 how many can be undone, 7 bytes of the TAPE",
      "13 the LAW in FORCE, 14 .. 16 TERMS 0 .. 2.", "NONE for others."})
  static void count() {
    TicketHall x = full();
    x.terms(0, 999);
    x.terms(1, 10);
    x.terms(2, 9);
    x.force(5);
    x.drop(1);
    x.drop(0);
    x.draw(7, 5);
    for (int i = 0; i < 20; i++) x.feed(0, 0, 0, 0, 0);
    int[] counts = {6, 8, 1, 3, 6, 6, 3, 400};
    for (int what = 0; what < 8; what++) due("count(" + what + ")", x.count(what), counts[what]);
    due("the law in force", x.count(13), 5);
    due("minute", x.count(14), 999);
    due("comes", x.count(15), 10);
    due("mood", x.count(16), 9);
    for (int bad : new int[] {-1, 17, 18, MIN, MAX}) due("count(" + bad + ")", x.count(bad), -1);
  }

  @Says(in = "Promise 41", value = "8 .. 12 how many calls were REFUSED by -1, -2, -3, -5, -6 (IMAGES do not keep that)")
  static void countRefused() {
    TicketHall x = full();
    x.image(0);
    for (int i = 0; i < 5; i++) due("none so far", x.count(8 + i), 0);
    for (int i = 0; i < 1; i++) x.person(9, 9);
    for (int i = 0; i < 2; i++) x.drop(9);
    for (int i = 0; i < 3; i++) x.drop(5);
    for (int i = 0; i < 4; i++) x.person(0, 0);
    for (int i = 0; i < 5; i++) x.row();
    for (int i = 0; i < 5; i++) due("by the " + i + "-th", x.count(8 + i), i + 1);
    x.of(9, 9);
    x.feed(0, 0, 0, 0, 0);
    x.end(99);
    x.end(0);
    x.few(0, 0);
    x.day(9, 9);
    x.compare(9);
    x.take(9);
    x.count(99);
    for (int i = 0; i < 5; i++) due("none that answers NONE", x.count(8 + i), i + 1);
    x.back(0);
    for (int i = 0; i < 5; i++) due("behind back()", x.count(8 + i), i + 1);
    x.image(1);
    x.drop(9);
    x.back(1);
    due("behind the other, too", x.count(9), 3);
    orders(x, "drop 9;drop 9");
    due("orders are one call", x.count(10), 4);
    due("and not those in them", x.count(9), 3);
  }

  /** A call of each that has a status, which can be in held(2) with an image, a desk and a law, and one that can't. */
  private static int call(TicketHall x, int which, boolean good) {
    switch (which) {
      case 0: return x.person(good ? 0 : 5, 0);
      case 1: return x.ticket(good ? 50 : 1, 0);
      case 2: return x.wish(0, good ? 0 : 9, 0);
      case 3: return x.desk(good ? 1 : -1, 1);
      case 4: return x.terms(good ? 0 : 3, 0);
      case 5: bytes(x, good ? new int[] {0} : new int[0]); return x.row();
      case 6: return law(x, good ? "fits" : "fit");
      case 7: return orders(x, good ? "pass if 1=2" : "drop 2");
      case 8: return x.force(good ? 0 : 2);
      case 9: return x.draw(good ? 2 : 0, good ? 2 : 1);
      case 10: return x.swap(0, good ? 1 : 0);
      case 11: return x.drop(good ? 1 : 3);
      case 12: x.terms(0, good ? 0 : 999); return x.pass();
      case 13: x.person(0, 0); if (good) x.pass(); return x.undo();
      case 14: return x.told(good ? 0 : 9, 0);
      case 15: return x.days(0, good ? 1 : 0);
      case 16: return x.image(good ? 1 : 2);
      default: return x.back(good ? 0 : 1);
    }
  }

  @Says(in = "Promise 42", value = {"What the latest call of person, ticket, wish, desk, terms, row, law, orders, force, draw, swap, drop, pass, undo, told, days, image, back was REFUSED by",
      "0 if it was not, or ahead of any."})
  static void status() {
    int[] refusals = {-1, -3, -2, -1, -1, -6, -6, -3, -2, -3, -3, -2, -3, -3, -2, -1, -1, -2};
    due("ahead of any", new TicketHall().status(), 0);
    for (int which = 0; which < 18; which++) {
      TicketHall x = held(2);
      x.desk(1, 1);
      law(x, "fits");
      x.person(0, 0);
      x.ticket(9, 0);
      x.image(0);
      due("call " + which, call(x, which, false), refusals[which]);
      due("refused, call " + which, x.status(), refusals[which]);
      othersIn(x);
      due("still, call " + which, x.status(), refusals[which]);
      due("call " + which + " can be", call(x, which, true) >= (which == 8 ? -1 : 0) ? 1 : 0, 1);
      due("not refused, call " + which, x.status(), 0);
      othersIn(x);
      due("still not, call " + which, x.status(), 0);
    }
  }

  /** Calls that have no status, all of which answer NONE. */
  private static void othersIn(TicketHall x) {
    int sum = x.of(9, 0) + x.at(9, 0) + x.asks(9, 0, 0) + x.end(999) + x.day(9, 0) + x.waiting(9) + x.about(99) + x.trade(9) + x.both(99);
    sum += x.take(9) + x.desks(-1, 0) + x.had(999, 0) + x.ask(9) + x.compare(9) + x.drawn(9) + x.count(99) + (int) x.few(0, 0);
    due("all of them none", sum, -17);
    x.scraps();
    x.fault();
    x.stopped();
    x.forget();
    x.feed(0, 0, 0, 0, 0);
  }
}
