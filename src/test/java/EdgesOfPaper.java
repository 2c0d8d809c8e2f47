/** Term III: a day, waiting, trade in rings, swaps both would rather have, the ticket to draw, the fewest desks. */
final class EdgesOfPaper extends Halls {
  private static void day(TicketHall x, int person, int begun, int done, int desk) {
    due("person " + person + " is begun", x.day(person, 0), begun);
    due("person " + person + " is done", x.day(person, 1), done);
    due("person " + person + "'s desk", x.day(person, 2), desk);
  }

  private static void trades(TicketHall x, int rings, int... tickets) {
    due("rings", x.trade(-1), rings);
    for (int p = 0; p < tickets.length; p++) due("person " + p + " trades", x.trade(p), tickets[p]);
  }

  @Says(in = "III", value = "(On paper, MINUTE as now:)")
  static void onPaper() {
    TicketHall x = busy();
    x.wish(0, 1, 9);
    x.wish(1, 0, 9);
    x.person(0, 0);
    x.ticket(99, 0);
    force(x, "takes minute + 5; costs mood + 2; fits if kind = 0; bars if person = 3 and ticket = 0");
    x.terms(0, 7);
    String ahead = state(x);
    for (int what = 0; what < 3; what++) x.day(0, what);
    for (int what = 0; what < 8; what++) x.about(what);
    for (int p = -1; p < 6; p++) {
      x.waiting(p);
      x.trade(p);
      x.take(p);
      x.had(p, 0);
      x.both(p);
    }
    x.desks(999, 0);
    x.ask(0);
    x.few(3, 9);
    x.compare(-1);
    x.compare(0);
    x.days(5, 60);
    alike("nothing changes", state(x), ahead);
    due("as told at that minute", x.day(1, 1), 12);
    x.pass();
    due("at the next", x.day(1, 1), 13);
    x.terms(0, 999);
    due("at the last", x.day(1, 1), 60);
  }

  @Says(in = "III", value = "A DAY: TICKETS that are held are called by rising NUMBERS")
  static void byRisingNumbers() {
    TicketHall x = new TicketHall();
    int[] numbers = {99, 1, 50, 2};
    for (int i = 0; i < 4; i++) {
      x.person(0, 0);
      x.ticket(numbers[i], 0);
    }
    x.desk(31, 9);
    due("nobody is called", x.day(0, 0), -1);
    for (int i = 0; i < 4; i++) x.draw(i, i);
    day(x, 1, 0, 3, 0);
    day(x, 3, 3, 6, 0);
    day(x, 2, 6, 9, 0);
    day(x, 0, 9, 12, 0);
    x.drop(3);
    day(x, 3, -1, -1, -1);
    day(x, 2, 3, 6, 0);
    x.swap(0, 1);
    day(x, 0, 0, 3, 0);
    day(x, 1, 6, 9, 0);
    // The line changes as tickets come.
    TicketHall z = new TicketHall();
    z.desk(31, 9);
    for (int i = 0; i < 3; i++) z.person(0, 0);
    z.ticket(50, 0);
    z.ticket(60, 0);
    z.draw(0, 0);
    z.draw(1, 1);
    day(z, 1, 3, 6, 0);
    z.ticket(10, 0);
    z.draw(2, 2);
    day(z, 2, 0, 3, 0);
    day(z, 0, 3, 6, 0);
    day(z, 1, 6, 9, 0);
  }

  @Says(in = "III", value = "each to the DESK that OPENS for its KIND and is free earliest (the lowest of alike ones; all are free at 0)")
  static void toTheDesk() {
    TicketHall x = new TicketHall();
    int[] kinds = {0, 0, 0, 1, 0, 1};
    for (int i = 0; i < 6; i++) {
      x.person(0, 0);
      x.ticket(10 + i, kinds[i]);
      x.draw(i, i);
    }
    x.desk(1, 2);
    x.desk(3, 2);
    x.desk(2, 1);
    // Desks 0 and 1 take 11 minutes, desk 2 takes 21.
    day(x, 0, 0, 11, 0);
    day(x, 1, 0, 11, 1);
    day(x, 2, 11, 22, 0);
    day(x, 3, 0, 21, 2);
    day(x, 4, 11, 22, 1);
    day(x, 5, 21, 42, 2);
    TicketHall y = held(4);
    for (int d = 0; d < 3; d++) y.desk(1, 9);
    for (int p = 0; p < 3; p++) day(y, p, 0, 3, p);
    day(y, 3, 3, 6, 0);
  }

  @Says(in = "III", value = "it is begun when that is free and TAKES as long as told there; the DESK is free behind.")
  static void begunWhenFree() {
    TicketHall x = held(6);
    x.desk(1, 3);
    force(x, "takes 60; takes 1 if ticket = 1; takes speed * 10 if person = 2");
    day(x, 0, 0, 60, 0);
    day(x, 1, 60, 61, 0);
    day(x, 2, 61, 91, 0);
    day(x, 5, 211, 271, 0);
    x.desk(1, 5);
    day(x, 1, 0, 1, 1);
    day(x, 2, 1, 51, 1);
    day(x, 3, 51, 111, 1);
    day(x, 4, 60, 120, 0);
    // Each as long as told of that person with that ticket there, though others were asked of ahead.
    TicketHall y = held(2);
    y.swap(0, 1);
    y.desk(1, 1);
    force(y, "takes 5; takes 9 if person = 1");
    day(y, 1, 0, 9, 0);
    day(y, 0, 9, 14, 0);
    TicketHall z = new TicketHall();
    for (int t = 0; t < 8; t++) z.ticket(t + 1, 0);
    for (int p = 0; p < 6; p++) z.person(0, 0);
    z.draw(7, 0);
    z.draw(0, 1);
    z.desk(1, 1);
    z.desk(1, 1);
    force(z, "takes 5; takes 9 if person = 1; takes 7 if person = 5");
    day(z, 1, 0, 9, 0);
    day(z, 0, 0, 5, 1);
    z.draw(6, 5);
    day(z, 5, 0, 7, 1);
    day(z, 0, 7, 12, 1);
  }

  @Says(in = "III", value = "One for whose KIND no DESK OPENS is not called.")
  static void notCalled() {
    TicketHall x = busy();
    day(x, 4, -1, -1, -1);
    TicketHall y = held(1);
    day(y, 0, -1, -1, -1);
    y.desk(0, 1);
    day(y, 0, -1, -1, -1);
    y.desk(30, 1);
    day(y, 0, -1, -1, -1);
    y.desk(1, 1);
    day(y, 0, 0, 21, 2);
  }

  @Says(in = "III", value = {"WAITING: what a minute COSTS times till it is begun", "1,000, if it is not called"})
  static void waiting() {
    TicketHall x = held(3);
    due("no desk", x.waiting(0), 1000);
    x.desk(1, 1);
    due("at once", x.waiting(0), 0);
    due("without a law", x.waiting(1), 21);
    force(x, "costs 9; takes 60");
    due("at once, whatever it costs", x.waiting(0), 0);
    due("nine times", x.waiting(1), 540);
    due("the last", x.waiting(2), 1080);
    force(x, "costs 0");
    due("for nothing", x.waiting(2), 0);
    TicketHall y = held(1);
    force(y, "costs 0");
    due("not called, whatever it costs", y.waiting(0), 1000);
  }

  @Says(in = "III", value = "ALL of it: of all who hold a TICKET together.")
  static void waitingOfAll() {
    TicketHall x = new TicketHall();
    due("nobody", x.waiting(-1), 0);
    x = held(6);
    due("nobody is called", x.waiting(-1), 6000);
    x.desk(1, 9);
    due("0, 3, 6, 9, 12, 15", x.waiting(-1), 45);
    x.drop(0);
    due("those who hold one alone", x.waiting(-1), 30);
    x.drop(5);
    x.ticket(50, 3);
    x.draw(6, 5);
    due("one of them not called", x.waiting(-1), 1018);
  }

  @Says(in = "III", value = "A TRADE: whoever holds a TICKET points at the holder of that which it WISHES for most of those that are left (its own, too;")
  static void pointsAt() {
    TicketHall x = new TicketHall();
    trades(x, 0);
    x = held(2);
    x.ticket(9, 0);
    x.person(0, 0);
    x.wish(0, 2, 9);
    x.wish(2, 0, 9);
    trades(x, 2, 0, 1, -1);
    x.wish(0, 1, 1);
    x.wish(1, 0, 9);
    trades(x, 1, 1, 0, -1);
    x.wish(0, 0, 2);
    trades(x, 2, 0, 1, -1);
  }

  @Says(in = "III", value = "the lowest of alike ones; BARRED ones aside")
  static void lowestOfAlikeOnes() {
    // By what the tickets are here, not by their numbers or holders: ticket 1, number 50, is person 2's.
    TicketHall x = new TicketHall();
    for (int p = 0; p < 3; p++) x.person(0, 0);
    x.ticket(10, 0);
    x.ticket(50, 0);
    x.ticket(20, 0);
    x.draw(0, 0);
    x.draw(1, 2);
    x.draw(2, 1);
    x.wish(0, 1, 5);
    x.wish(0, 2, 5);
    x.wish(1, 0, 9);
    x.wish(2, 0, 9);
    trades(x, 2, 1, 2, 0);
    force(x, "bars if person = 0 and ticket = 1");
    trades(x, 2, 2, 0, 1);
    force(x, "bars if person = 0 and ticket > 0");
    trades(x, 3, 0, 2, 1);
  }

  @Says(in = "III", value = "its own is never BARRED)")
  static void ownIsNeverBarred() {
    TicketHall x = held(3);
    force(x, "bars");
    x.wish(0, 1, 9);
    x.wish(1, 0, 9);
    trades(x, 3, 0, 1, 2);
    TicketHall y = held(2);
    force(y, "bars if person = ticket");
    y.wish(0, 0, 9);
    y.wish(0, 1, 8);
    y.wish(1, 0, 9);
    trades(y, 2, 0, 1);
    y.wish(0, 1, 9);
    trades(y, 2, 0, 1);
    y.wish(0, 0, 8);
    trades(y, 1, 1, 0);
  }

  @Says(in = "III", value = "rings of those that point at one another take what they point at and leave; so on with what is left.")
  static void rings() {
    TicketHall x = held(6);
    for (int p = 0; p < 6; p++) x.wish(p, (p + 1) % 6, 9);
    trades(x, 1, 1, 2, 3, 4, 5, 0);
    TicketHall y = held(3);
    y.wish(0, 1, 9);
    y.wish(1, 2, 9);
    y.wish(2, 2, 9);
    // Person 2 leaves alone; then person 1 points at the lowest that is left.
    trades(y, 2, 1, 0, 2);
    TicketHall z = held(6);
    // Each round one leaves with its own: all wish for the lowest that is left, its holder too.
    for (int p = 0; p < 6; p++) for (int t = 0; t < 6; t++) z.wish(p, t, 9 - t);
    trades(z, 6, 0, 1, 2, 3, 4, 5);
    TicketHall w = held(5);
    w.wish(0, 1, 9);
    w.wish(1, 0, 9);
    w.wish(2, 0, 9);
    w.wish(2, 3, 8);
    w.wish(3, 1, 9);
    w.wish(3, 4, 8);
    w.wish(4, 2, 9);
    trades(w, 2, 1, 0, 3, 4, 2);
  }

  @Says(in = "III", value = "rings of those that point at one another take what they point at and leave; so on with what is left.")
  static void ringsInAFullHall() {
    TicketHall x = new TicketHall();
    for (int p = 0; p < 6; p++) x.person(0, 0);
    for (int t = 0; t < 8; t++) x.ticket(t + 1, 0);
    for (int p = 0; p < 6; p++) x.draw(p + 2, p);
    x.wish(0, 7, 9);
    x.wish(5, 2, 9);
    // The first two tickets are nobody's, so that wishes for them do not matter.
    for (int p = 0; p < 6; p++) x.wish(p, p % 2, 9);
    x.wish(0, 0, 0);
    trades(x, 5, 7, 3, 4, 5, 6, 2);
    for (int p = 0; p < 6; p++) x.wish(p, 7, 9);
    trades(x, 5, 7, 3, 4, 5, 6, 2);
    x.wish(5, 2, 8);
    trades(x, 6, 2, 3, 4, 5, 6, 7);
  }

  @Says(in = "III", value = "RINGS: how many there are.")
  static void howManyRings() {
    due("none", new TicketHall().trade(-1), 0);
    for (int n = 1; n <= 6; n++) due("each alone", held(n).trade(-1), n);
    TicketHall x = held(6);
    for (int p = 0; p < 6; p++) x.wish(p, p ^ 1, 1);
    due("three of two", x.trade(-1), 3);
    x.drop(0);
    due("one of one, two of two", x.trade(-1), 3);
  }

  @Says(in = "III", value = "BOTH: twos of PEOPLE holding TICKETS each of whom WISHES more for the other's, neither BARRED from it")
  static void both() {
    TicketHall x = held(2);
    due("no wishes", x.both(-1), 0);
    x.wish(0, 1, 1);
    due("one of them", x.both(-1), 0);
    x.wish(1, 0, 1);
    due("both", x.both(-1), 1);
    x.wish(1, 1, 1);
    due("as much is not more", x.both(-1), 0);
    x.wish(1, 0, 9);
    force(x, "bars if person = 1 and ticket = 0");
    due("the higher one is barred", x.both(-1), 0);
    force(x, "bars if person = 0 and ticket = 1");
    due("the lower one is barred", x.both(-1), 0);
    force(x, "bars if person = ticket");
    due("barred from what they hold alone", x.both(-1), 1);
    x.drop(1);
    due("one holds none", x.both(-1), 0);
    // Tickets 7 and 2 of persons 0 and 1: each is barred from the other's, and not from what has its own number.
    TicketHall y = full();
    y.drop(0);
    y.drop(1);
    y.draw(7, 0);
    y.draw(2, 1);
    y.wish(0, 2, 1);
    y.wish(1, 7, 1);
    due("in a full hall", y.both(-1), 1);
    due("the two", y.both(0), 1);
    for (String bars : new String[] {"bars if person = 0 and ticket = 2", "bars if person = 1 and ticket = 7"}) {
      TicketHall z = held(2);
      for (int t = 2; t < 8; t++) z.ticket(t + 1, 0);
      z.drop(0);
      z.drop(1);
      z.draw(7, 0);
      z.draw(2, 1);
      z.wish(0, 2, 1);
      z.wish(1, 7, 1);
      due("of eight tickets", z.both(-1), 1);
      force(z, bars);
      due(bars, z.both(-1), 0);
    }
    TicketHall w = lastTwoHold();
    w.wish(4, 0, 1);
    w.wish(5, 1, 1);
    due("two tickets among six", w.both(0), 45);
  }

  /** Six people and two tickets: persons 4 and 5 hold tickets 1 and 0; a desk of speed 9. */
  private static TicketHall lastTwoHold() {
    TicketHall x = new TicketHall();
    for (int p = 0; p < 6; p++) x.person(0, 0);
    for (int t = 0; t < 2; t++) x.ticket(t + 1, 0);
    x.draw(1, 4);
    x.draw(0, 5);
    x.desk(1, 9);
    return x;
  }

  @Says(in = "III", value = "by the lower, then the higher one.")
  static void bothInOrder() {
    TicketHall x = held(6);
    for (int p = 0; p < 6; p++) for (int t = 0; t < 6; t++) x.wish(p, t, p == t ? 0 : 1);
    due("all twos", x.both(-1), 15);
    int i = 0;
    for (int low = 0; low < 6; low++) for (int high = low + 1; high < 6; high++) due("two " + i, x.both(i++), 10 * low + high);
    due("no more", x.both(15), -1);
  }

  @Says(in = "III", value = "To TAKE: of TICKETS that are nobody's, from which a PERSON without one is not BARRED")
  static void takeFrom() {
    TicketHall x = new TicketHall();
    x.person(0, 0);
    x.person(0, 0);
    x.desk(31, 9);
    due("there is none", x.take(0), -1);
    x.ticket(1, 0);
    x.ticket(2, 0);
    due("the first", x.take(0), 0);
    x.draw(0, 1);
    due("the one that is nobody's", x.take(0), 1);
    due("one with a ticket", x.take(1), -1);
    force(x, "bars if person = 0 and ticket = 1");
    due("barred from that", x.take(0), -1);
    x.drop(1);
    due("not from the other", x.take(0), 0);
  }

  @Says(in = "III", value = "that by which it is done earliest, if it alone draws; the lowest (those not called aside).")
  static void takeEarliest() {
    TicketHall x = new TicketHall();
    x.person(0, 0);
    x.person(0, 0);
    x.ticket(50, 0);
    x.ticket(10, 1);
    x.ticket(40, 2);
    x.ticket(90, 3);
    due("no desk", x.take(0), -1);
    x.desk(4, 1);
    due("the only one called", x.take(0), 2);
    x.desk(3, 1);
    due("the lowest of alike ones, not the first called", x.take(0), 0);
    x.draw(1, 1);
    due("behind the other one it is later", x.take(0), 2);
    force(x, "takes 10; takes 20 if kind = 2");
    due("as late as the other way", x.take(0), 0);
    force(x, "takes 10; takes 19 if kind = 2");
    due("a minute earlier", x.take(0), 2);
    x.desk(8, 9);
    force(x, "takes 10; takes 9 if kind = 3");
    due("the last ticket", x.take(0), 3);
    TicketHall y = new TicketHall();
    y.person(0, 0);
    for (int t = 0; t < 8; t++) y.ticket(t + 1, 0);
    y.desk(1, 1);
    due("of eight alike the lowest", y.take(0), 0);
    force(y, "takes 20; takes 10 if ticket = 7");
    due("of eight the last", y.take(0), 7);
  }

  @Says(in = "III", value = "DESKS: the fewest of them (as bits, the lowest) by which all TICKETS that are held are called")
  static void fewestDesks() {
    TicketHall x = new TicketHall();
    due("none is held: none", x.desks(0, 0), 0);
    due("no bits", x.desks(0, 1), 0);
    x = held(1);
    due("none is there", x.desks(999, 0), -1);
    x.desk(2, 9);
    due("it is not called", x.desks(999, 0), -1);
    x.desk(3, 9);
    x.desk(1, 9);
    due("one", x.desks(999, 0), 1);
    due("the lowest of two", x.desks(999, 1), 2);
    x.ticket(50, 1);
    x.person(0, 0);
    x.draw(1, 1);
    due("one for both", x.desks(999, 1), 2);
    x.ticket(60, 2);
    x.person(0, 0);
    x.draw(2, 2);
    due("not all are called", x.desks(999, 0), -1);
    TicketHall y = new TicketHall();
    for (int k = 0; k < 3; k++) {
      y.person(0, 0);
      y.ticket(k + 1, k);
      y.draw(k, k);
      y.desk(1 << k, 9);
    }
    due("three", y.desks(3, 0), 3);
    due("all bits", y.desks(3, 1), 7);
    TicketHall z = held(2);
    for (int d = 0; d < 3; d++) z.desk(1, d == 2 ? 9 : 1);
    // The first two take 21 minutes each, the last one 3.
    due("the last one alone", z.desks(21, 0), 1);
    due("fewer of them, though more as bits", z.desks(21, 1), 4);
    due("sooner, too", z.desks(6, 1), 4);
    for (int t = 2; t < 8; t++) z.ticket(t + 1, 0);
    for (int p = 2; p < 6; p++) z.person(0, 0);
    due("six people, eight tickets", z.desks(21, 1), 4);
    TicketHall w = lastTwoHold();
    due("six people, two tickets", w.desks(6, 1), 1);
    due("the last one of them is done", w.desks(5, 1), -1);
    due("both of them are", w.desks(3, 1), -1);
  }

  @Says(in = "III", value = "and none is done behind a MINUTE.")
  static void doneByAMinute() {
    TicketHall x = held(2);
    for (int d = 0; d < 3; d++) x.desk(1, 5 - d);
    // Desk 0 takes 5, desk 1 takes 6, desk 2 takes 7.
    due("just then", x.desks(10, 1), 1);
    due("a minute earlier it needs two", x.desks(9, 1), 3);
    due("the lowest two", x.desks(6, 1), 3);
    due("no two by that", x.desks(5, 1), -1);
    due("at 0", x.desks(0, 0), -1);
    TicketHall y = held(2);
    y.desk(1, 9);
    y.desk(1, 1);
    due("one alone is quicker than both", y.desks(6, 1), 1);
    due("not quicker still", y.desks(5, 1), -1);
    TicketHall z = held(6);
    z.desk(1, 1);
    force(z, "takes 60");
    due("all behind one another", z.desks(360, 0), 1);
    due("a minute less", z.desks(359, 0), -1);
  }
}
