/** Term III: ways to hold tickets, whom to ask, how likely so few come, laws compared. */
final class EdgesOfWays extends Halls {
  private static void about(TicketHall x, int fit, int all, int... tickets) {
    due("fit", x.about(0), fit);
    due("all", x.about(1), all);
    for (int p = 0; p < tickets.length; p++) due("person " + p, x.about(2 + p), tickets[p]);
  }

  private static void way(TicketHall x, int i, int... tickets) {
    for (int p = 0; p < tickets.length; p++) due("way " + i + ", person " + p, x.had(i, p), tickets[p]);
  }

  @Says(in = "III", value = "ABOUT: TICKETS that are held, held in any way by those who hold one now (none BARRED)")
  static void anyWay() {
    about(new TicketHall(), 0, 0);
    TicketHall x = new TicketHall();
    x.person(1, 0);
    x.person(0, 0);
    x.ticket(5, 0);
    x.ticket(6, 1);
    x.draw(0, 0);
    // Ticket 1 would fit person 0, and ticket 0 person 1: but the one is nobody's, the other one holds none.
    about(x, 0, 1000, 0, -1);
    x.draw(1, 1);
    about(x, 2, 2000, 1, 0);
    force(x, "bars if person = 0 and ticket = 1");
    about(x, 0, 2000, 0, 1);
    force(x, "bars if person = 1 and ticket = 1");
    about(x, 2, 2000, 1, 0);
    force(x, "bars if person = 0");
    about(x, -1, -1, -1, -1);
    x.drop(0);
    about(x, 0, 1000, -1, 1);
    force(x, "bars");
    about(x, -1, -1, -1, -1);
    x.drop(1);
    about(x, 0, 0, -1, -1);
    TicketHall y = held(6);
    force(y, "bars if person + ticket < 5; bars if person + ticket > 5");
    about(y, 6, 6000, 5, 4, 3, 2, 1, 0);
  }

  private static void stands(TicketHall x, String when, int ways, int fit, int all, int least) {
    due(when + ", ways", x.had(-1, 0), ways);
    due(when + ", fit", x.about(0), fit);
    due(when + ", all", x.about(1), all);
    due(when + ", left at most", x.ask(1), least);
  }

  /** Asked ahead of each call and behind it, so that nothing is told of what stood before. */
  @Says(in = "III", value = "held in any way by those who hold one now")
  static void asItStandsNow() {
    TicketHall x = new TicketHall();
    stands(x, "an empty hall", 1, 0, 0, -1);
    for (int i = 0; i < 2; i++) {
      x.person(i, 0);
      x.ticket(i + 1, i);
    }
    stands(x, "nobody holds one", 1, 0, 0, -1);
    x.draw(0, 0);
    stands(x, "one draws", 1, 1, 1000, 1);
    x.draw(1, 1);
    stands(x, "two draw", 2, 2, 2000, 1);
    x.undo();
    stands(x, "a draw undone", 1, 1, 1000, 1);
    x.draw(1, 1);
    x.drop(0);
    stands(x, "one drops", 1, 1, 1000, 1);
    x.undo();
    stands(x, "a drop undone", 2, 2, 2000, 1);
    x.desk(3, 9);
    stands(x, "a desk", 2, 2, 3, 1);
    law(x, "costs 2; costs 5 if minute > 0; costs 9 if mood > 0");
    stands(x, "a law", 2, 2, 3, 1);
    x.force(0);
    stands(x, "in force", 2, 2, 6, 1);
    x.pass();
    stands(x, "a minute", 2, 2, 15, 1);
    x.undo();
    stands(x, "a minute undone", 2, 2, 6, 1);
    x.terms(2, 1);
    stands(x, "a term", 2, 2, 27, 1);
    x.terms(2, 0);
    x.told(0, 3);
    stands(x, "told", 1, 2, 6, 1);
    x.told(1, 3);
    stands(x, "told of both", 0, 2, 6, -1);
    x.forget();
    stands(x, "forgotten", 2, 2, 6, 1);
    x.image(0);
    orders(x, "drop 0; pass");
    stands(x, "orders", 1, 1, 0, 1);
    orders(x, "drop 1; drop 1");
    stands(x, "orders that can't be", 1, 1, 0, 1);
    x.drop(1);
    stands(x, "nobody again", 1, 0, 0, -1);
    x.back(0);
    stands(x, "back", 2, 2, 6, 1);
    x.swap(0, 1);
    stands(x, "a swap", 2, 2, 6, 1);
    x.undo();
    x.days(5, 60);
    x.wish(0, 1, 9);
    stands(x, "days, a wish", 2, 2, 6, 1);
    bytes(x, 90, 0);
    x.row();
    x.person(0, 0);
    x.draw(2, 2);
    stands(x, "a third one", 6, 3, 18, 2);
    x.force(-1);
    stands(x, "no law", 6, 3, 9, 2);
  }

  /** Tickets 1, 6 and 7 of persons 0, 4 and 5: what is asked of one of them is not what is asked of another. */
  @Says(in = "III", value = "the most that are FIT, then the least of ALL")
  static void eachAskedOfItsOwn() {
    TicketHall x = new TicketHall();
    for (int p = 0; p < 6; p++) x.person(4, 0);
    for (int t = 0; t < 8; t++) x.ticket(8 - t, 0);
    for (int d = 0; d < 3; d++) x.desk(d == 2 ? 1 : 0, 1);
    x.draw(1, 0);
    x.draw(6, 4);
    x.draw(7, 5);
    force(x, "takes 10 + person; takes 40 + person if ticket = 7; fits if person = 4 and ticket = 6; bars if person = 0 and ticket = 6");
    // Called are tickets 7, 6, 1. Person 4 has 6; then person 0 is first or last.
    about(x, 1, 40 + 54, 7, -1, -1, -1, 6, 1);
    force(x, "takes 10 + person; takes 40 + person if ticket = 7; fits if person = 4 and ticket = 6; fits if person = 5 and ticket = 7");
    about(x, 2, 45 + 59, 1, -1, -1, -1, 6, 7);
  }

  @Says(in = "III", value = "the most that are FIT, then the least of ALL")
  static void mostThenLeast() {
    TicketHall x = new TicketHall();
    x.person(1, 0);
    x.person(0, 0);
    x.ticket(1, 0);
    x.ticket(2, 1);
    x.desk(31, 9);
    x.draw(0, 0);
    x.draw(1, 1);
    force(x, "costs 9; costs 0 if person = 1");
    // As it is none waits for anything, but none is fit; the other way person 0 waits 3 minutes.
    due("all as it is", x.waiting(-1), 0);
    about(x, 2, 27, 1, 0);
    force(x, "costs 9; costs 0 if person = 1; fits");
    about(x, 2, 0, 0, 1);
    force(x, "costs 9; costs 0 if person = 0; fits");
    about(x, 2, 0, 1, 0);
    TicketHall y = held(6);
    y.desk(1, 9);
    force(y, "costs person");
    // 3 minutes each: who costs most comes first.
    about(y, 6, 3 * (4 + 2 * 3 + 3 * 2 + 4 * 1), 5, 4, 3, 2, 1, 0);
    // Of a person with a ticket it is asked, not of either alone.
    TicketHall z = new TicketHall();
    z.person(4, 0);
    z.person(4, 0);
    z.ticket(1, 0);
    z.ticket(2, 0);
    z.draw(0, 0);
    z.draw(1, 1);
    force(z, "fits if person = 0 and ticket = 1");
    about(z, 1, 2000, 1, 0);
    TicketHall w = new TicketHall();
    for (int i = 0; i < 6; i++) {
      w.person(4, 0);
      w.ticket(9 - i, 0);
    }
    for (int i = 0; i < 6; i++) w.draw(i, i);
    force(w, "fits if ticket = person + 1; fits if person = 5 and ticket = 0");
    about(w, 6, 6000, 1, 2, 3, 4, 5, 0);
  }

  @Says(in = "III", value = "the first as a row of TICKETS by PEOPLE.")
  static void firstRow() {
    TicketHall x = held(3);
    x.swap(0, 2);
    x.swap(0, 1);
    about(x, 3, 3000, 0, 1, 2);
    x.desk(1, 9);
    about(x, 3, 9, 0, 1, 2);
    force(x, "bars if person = 0 and ticket = 0");
    about(x, 3, 9, 1, 0, 2);
    force(x, "bars if person = 0 and ticket < 2");
    about(x, 3, 9, 2, 0, 1);
    TicketHall y = new TicketHall();
    y.person(0, 0);
    y.person(0, 0);
    y.ticket(90, 0);
    y.ticket(10, 0);
    y.draw(1, 0);
    y.draw(0, 1);
    // By what the tickets are here, not by their numbers.
    about(y, 2, 2000, 0, 1);
  }

  @Says(in = "III", value = "HAD: ways to hold all TICKETS that are held by those who hold one now")
  static void allWays() {
    due("nobody: one way", new TicketHall().had(-1, 0), 1);
    int ways = 1;
    for (int n = 1; n <= 6; n++) {
      ways *= n;
      TicketHall x = held(n);
      x.ticket(50, 0);
      due(n + " hold one", x.had(-1, 0), ways);
      due("the last way", x.had(ways - 1, 0), n - 1);
      due("none behind", x.had(ways, 0), -1);
    }
    TicketHall y = held(3);
    y.drop(1);
    due("two hold one", y.had(-1, 0), 2);
    way(y, 0, 0, -1, 2);
    way(y, 1, 2, -1, 0);
  }

  @Says(in = "III", value = "by which all TOLD come to be done just then")
  static void asTold() {
    TicketHall x = held(3);
    x.desk(1, 4);
    x.told(0, 5);
    due("not a minute earlier", x.had(-1, 0), 0);
    x.forget();
    x.told(0, 7);
    due("nor later", x.had(-1, 0), 0);
    x.forget();
    x.told(0, 6);
    due("just then", x.had(-1, 0), 2);
    way(x, 0, 0, 1, 2);
    way(x, 1, 0, 2, 1);
    x.told(0, 6);
    due("told twice", x.had(-1, 0), 2);
    x.told(2, 12);
    due("all told", x.had(-1, 0), 1);
    way(x, 0, 0, 2, 1);
    x.told(0, 18);
    due("not at two minutes", x.had(-1, 0), 0);
    x.forget();
    x.told(1, 0);
    due("none is done at 0", x.had(-1, 0), 0);
    x.forget();
    x.person(0, 0);
    x.told(3, 6);
    due("nor one who holds none", x.had(-1, 0), 0);
    TicketHall y = held(2);
    y.told(0, 0);
    due("nor one who is not called", y.had(-1, 0), 0);
    TicketHall z = held(1);
    z.desk(1, 1);
    for (int i = 0; i < 6; i++) z.told(0, 21);
    due("six told", z.had(-1, 0), 1);
  }

  @Says(in = "III", value = "(BARRED aside; by rows of TICKETS by PEOPLE).")
  static void barredAside() {
    TicketHall x = held(2);
    force(x, "bars");
    due("all ways", x.had(-1, 0), 2);
    way(x, 0, 0, 1);
    way(x, 1, 1, 0);
    TicketHall y = held(3);
    y.swap(0, 2);
    int[][] rows = {{0, 1, 2}, {0, 2, 1}, {1, 0, 2}, {1, 2, 0}, {2, 0, 1}, {2, 1, 0}};
    for (int i = 0; i < 6; i++) way(y, i, rows[i]);
  }

  @Says(in = "III", value = "To ASK: of PEOPLE holding one that of whom the most of these ways would have one TICKET is least; the lowest.")
  static void whomToAsk() {
    TicketHall x = held(3);
    x.desk(1, 4);
    due("alike: the lowest", x.ask(0), 0);
    due("two of six", x.ask(1), 2);
    x.told(0, 12);
    due("person 0 has one ticket in both ways", x.ask(0), 1);
    due("one of two", x.ask(1), 1);
    x.told(1, 6);
    due("one way: the lowest again", x.ask(0), 0);
    due("one", x.ask(1), 1);
    TicketHall y = held(5);
    for (int p = 0; p < 4; p++) y.drop(p);
    due("the only one who holds one", y.ask(0), 4);
    due("one way", y.ask(1), 1);
    for (int t = 5; t < 8; t++) y.ticket(60 + t, 0);
    y.person(0, 0);
    y.draw(7, 5);
    y.drop(4);
    due("the last of six people, the last of eight tickets", y.ask(0), 5);
    TicketHall w = new TicketHall();
    for (int p = 0; p < 6; p++) w.person(0, 0);
    w.ticket(1, 0);
    w.draw(0, 5);
    due("the last of six people, the only ticket", w.ask(0), 5);
    TicketHall z = held(4);
    z.desk(1, 9);
    force(z, "takes 5 if person < 2; takes 7 if person > 1");
    z.told(0, 10);
    // Person 0 is second behind person 1: in both ways persons 2 and 3 come behind.
    due("ways", z.had(-1, 0), 2);
    due("whom they tell apart", z.ask(0), 2);
    due("one of them", z.ask(1), 1);
    due("720 ways", held(6).ask(1), 120);
  }

  @Says(in = "III", value = "FEW: the chance, of 1,000,000,000,000 parts, that of n PEOPLE, each of whom COMES in so many of ten, fewer than k come")
  static void few() {
    TicketHall x = new TicketHall();
    due("none of none", x.few(1, 0), 1000000000000L);
    due("none of none is fewer than 20", x.few(20, 0), 1000000000000L);
    due("none of one", x.few(1, 1), 100000000000L);
    due("none or one of one", x.few(2, 1), 1000000000000L);
    due("less than two of three", x.few(2, 3), 28000000000L);
    x.terms(1, 0);
    due("none comes", x.few(1, 99), 1000000000000L);
    due("none is fewer than 20", x.few(20, 99), 1000000000000L);
    x.terms(1, 10);
    due("all come", x.few(1, 1), 0);
    due("all 19, fewer than 20", x.few(20, 19), 1000000000000L);
    due("all 20", x.few(20, 20), 0);
    due("all 99", x.few(20, 99), 0);
    x.terms(1, 5);
    due("half", x.few(1, 1), 500000000000L);
    due("none of twelve", x.few(1, 12), 244140625L);
    due("fewer than six of eleven", x.few(6, 11), 500000000000L);
    x.terms(1, 3);
    due("three of ten", x.few(2, 2), 910000000000L);
  }

  @Says(in = "III", value = "each part is cut.")
  static void eachPartIsCut() {
    TicketHall x = new TicketHall();
    due("a single part is left", x.few(1, 12), 1);
    due("it is cut", x.few(1, 13), 0);
    due("one and 108", x.few(2, 12), 109);
    // 108 / 10 is 10 and 1 * 9 / 10 is 0.
    due("10 and 0", x.few(2, 13), 10);
    x.terms(1, 5);
    due("none of 13: 122070312.5", x.few(1, 13), 122070312L);
    // One of 13: 12 * 244140625 / 2 and 244140625 / 2.
    due("one of 13 added", x.few(2, 13), 122070312L + 1464843750L + 122070312L);
    x.terms(1, 1);
    long none = 1000000000000L;
    for (int i = 0; i < 99; i++) none = none * 9 / 10;
    due("cut 99 times", x.few(1, 99), none);
  }

  @Says(in = "III", value = "COMPARED: ALL by a LAW in place of that in FORCE (NONE: none).")
  static void compared() {
    TicketHall x = held(3);
    x.desk(1, 9);
    law(x, "costs 2");
    law(x, "takes 60; costs 9");
    due("none in force, none in place", x.compare(-1), 9);
    due("the first", x.compare(0), 18);
    due("the second", x.compare(1), 1620);
    x.force(1);
    due("that in force", x.compare(1), 1620);
    due("another one", x.compare(0), 18);
    due("none", x.compare(-1), 9);
    due("that in force stays", x.waiting(-1), 1620);
    due("nobody holds one", new TicketHall().compare(-1), 0);
  }
}
