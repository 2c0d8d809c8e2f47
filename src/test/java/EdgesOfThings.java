/** Term I: how many things there are, how large their numbers may be, and by what calls are refused. */
final class EdgesOfThings extends Halls {
  @Says(in = "I", value = "PEOPLE 0 .. 5 (6 at most)")
  static void people() {
    TicketHall x = new TicketHall();
    due("none yet", x.of(0, 0), -1);
    for (int p = 0; p < 6; p++) due("the number", x.person(0, p), p);
    refuses("a seventh", x, -5, h -> h.person(0, 0));
    due("the last one is there", x.of(5, 1), 5);
    due("none behind", x.of(6, 1), -1);
    due("none ahead", x.of(-1, 1), -1);
  }

  @Says(in = "I", value = "BUSINESS, a KIND 0 .. 4")
  static void business() {
    range("business", 0, 4, -1, v -> new TicketHall().person(v, 0));
    for (int kind = 0; kind <= 4; kind++) {
      TicketHall x = new TicketHall();
      x.person(kind, 0);
      due("kept", x.of(0, 0), kind);
    }
  }

  @Says(in = "I", value = "PATIENCE 0 .. 99")
  static void patience() {
    range("patience", 0, 99, -1, v -> new TicketHall().person(0, v));
    TicketHall x = new TicketHall();
    x.person(0, 0);
    x.person(0, 99);
    due("the least", x.of(0, 1), 0);
    due("the most", x.of(1, 1), 99);
  }

  @Says(in = "I", value = "WISHES 0 .. 9 for each TICKET (0 at first)")
  static void wishes() {
    range("wish", 0, 9, -1, v -> held(1).wish(0, 0, v));
    TicketHall x = full();
    for (int p = 0; p < 6; p++)
      for (int t = 0; t < 8; t++) due("0 at first", x.wish(p, t, (3 * p + t) % 10), 0);
    for (int p = 0; p < 6; p++)
      for (int t = 0; t < 8; t++) due("each its own", x.asks(p, t, 0), (3 * p + t) % 10);
    TicketHall y = new TicketHall();
    y.image(0);
    y.person(0, 0);
    y.ticket(1, 0);
    y.wish(0, 0, 9);
    y.back(0);
    y.person(0, 0);
    y.ticket(1, 0);
    due("0 at first where another one's was", y.asks(0, 0, 0), 0);
  }

  @Says(in = "I", value = "a TICKET or none (at first)")
  static void holdsNoneAtFirst() {
    TicketHall x = new TicketHall();
    x.ticket(1, 0);
    x.person(0, 0);
    due("none", x.of(0, 2), -1);
    x.draw(0, 0);
    due("the first ticket of all", x.of(0, 2), 0);
    x.person(0, 0);
    due("another one holds none", x.of(1, 2), -1);
    x.drop(0);
    due("none again", x.of(0, 2), -1);
  }

  @Says(in = "I", value = "TICKETS 0 .. 7 (8 at most)")
  static void tickets() {
    TicketHall x = new TicketHall();
    due("none yet", x.at(0, 0), -1);
    for (int t = 0; t < 8; t++) due("its number here", x.ticket(20 + t, 0), t);
    refuses("a ninth", x, -5, h -> h.ticket(50, 0));
    due("the last one is there", x.at(7, 0), 27);
    due("none behind", x.at(8, 0), -1);
    due("none ahead", x.at(-1, 0), -1);
  }

  @Says(in = "I", value = "NUMBER 1 .. 99 (each its own)")
  static void numbers() {
    range("number", 1, 99, -1, v -> new TicketHall().ticket(v, 0));
    TicketHall x = new TicketHall();
    x.ticket(1, 0);
    x.ticket(99, 4);
    refuses("the first one's", x, -3, h -> h.ticket(1, 3));
    refuses("the latest one's", x, -3, h -> h.ticket(99, 0));
    due("another one", x.ticket(2, 0), 2);
  }

  @Says(in = "I", value = "KIND 0 .. 4, each one's or nobody's (at first)")
  static void kinds() {
    range("kind", 0, 4, -1, v -> new TicketHall().ticket(1, v));
    TicketHall x = new TicketHall();
    for (int kind = 0; kind <= 4; kind++) {
      x.ticket(kind + 1, kind);
      due("kept", x.at(kind, 1), kind);
      due("nobody's at first", x.at(kind, 2), -1);
    }
    x.person(0, 0);
    x.draw(3, 0);
    due("the first person's", x.at(3, 2), 0);
    due("nobody's still", x.at(0, 2), -1);
  }

  @Says(in = "I", value = "DESKS 0 .. 2 (3 at most)")
  static void desks() {
    TicketHall x = held(1);
    for (int d = 0; d < 3; d++) {
      due("not there yet", x.asks(0, 0, 3 + d), -1);
      due("its number", x.desk(31, 1), d);
      due("there", x.asks(0, 0, 3 + d), 21);
    }
    refuses("a fourth", x, -5, h -> h.desk(31, 1));
    due("none behind", x.asks(0, 0, 6), -1);
  }

  @Says(in = "I", value = "OPENS for KINDS, as bits 0 .. 31")
  static void opens() {
    range("opens", 0, 31, -1, v -> new TicketHall().desk(v, 1));
    for (int kind = 0; kind <= 4; kind++) {
      for (int opens = 0; opens <= 31; opens++) {
        TicketHall x = new TicketHall();
        x.person(0, 0);
        x.ticket(1, kind);
        x.draw(0, 0);
        x.desk(opens, 9);
        due("kind " + kind + " by " + opens, x.day(0, 2), (opens >> kind & 1) == 1 ? 0 : -1);
      }
    }
  }

  @Says(in = "I", value = "SPEED 1 .. 9")
  static void speed() {
    range("speed", 1, 9, -1, v -> new TicketHall().desk(0, v));
  }

  @Says(in = "I", value = "TOLD, 6 at most")
  static void toldSixAtMost() {
    TicketHall x = held(1);
    for (int i = 1; i <= 6; i++) due("how often", x.told(0, 5), i);
    refuses("a seventh", x, -5, h -> h.told(0, 5));
    due("six", x.count(4), 6);
    x.forget();
    due("room again", x.told(0, 5), 1);
  }

  @Says(in = "I", value = "at what MINUTE 0 .. 999 one of the PEOPLE was done")
  static void toldMinute() {
    range("minute", 0, 999, -1, v -> held(1).told(0, v));
    range("person", 0, 5, -2, v -> held(6).told(v, 0));
  }

  @Says(in = "I", value = "TERMS: 0 MINUTE 0 .. 999 (0 at first)")
  static void minute() {
    range("minute", 0, 999, -1, v -> new TicketHall().terms(0, v));
    TicketHall x = new TicketHall();
    due("0 at first", x.terms(0, 999), 0);
    due("kept", x.count(14), 999);
  }

  @Says(in = "I", value = "1 COMES 0 .. 10 (9)")
  static void comes() {
    range("comes", 0, 10, -1, v -> new TicketHall().terms(1, v));
    TicketHall x = new TicketHall();
    due("9 at first", x.terms(1, 10), 9);
    due("kept", x.count(15), 10);
  }

  @Says(in = "I", value = "2 MOOD 0 .. 9 (0)")
  static void mood() {
    range("mood", 0, 9, -1, v -> new TicketHall().terms(2, v));
    TicketHall x = new TicketHall();
    due("0 at first", x.terms(2, 9), 0);
    due("kept", x.count(16), 9);
  }

  @Says(in = "I", value = "REFUSED by: -1 a number that can't be")
  static void byNumbers() {
    refuses("person", held(1), -1, h -> h.person(5, 0));
    refuses("ticket", held(1), -1, h -> h.ticket(100, 0));
    refuses("wish", held(1), -1, h -> h.wish(0, 0, 10));
    refuses("desk", held(1), -1, h -> h.desk(32, 1));
    refuses("terms", held(1), -1, h -> h.terms(0, 1000));
    refuses("told", held(1), -1, h -> h.told(0, 1000));
    refuses("days", held(1), -1, h -> h.days(0, 61));
    refuses("image", held(1), -1, h -> h.image(2));
    refuses("back", held(1), -1, h -> h.back(2));
  }

  @Says(in = "I", value = "-2 there is no such PERSON, TICKET, LAW, IMAGE")
  static void byNoSuch() {
    refuses("wish of a person", held(1), -2, h -> h.wish(1, 0, 1));
    refuses("wish for a ticket", held(1), -2, h -> h.wish(0, 1, 1));
    refuses("force", held(1), -2, h -> h.force(0));
    refuses("draw of a ticket", held(1), -2, h -> h.draw(1, 0));
    refuses("draw by a person", held(1), -2, h -> h.draw(0, 1));
    refuses("swap of a person", held(1), -2, h -> h.swap(1, 0));
    refuses("swap with a person", held(1), -2, h -> h.swap(0, 1));
    refuses("drop", held(1), -2, h -> h.drop(1));
    refuses("told", held(1), -2, h -> h.told(1, 0));
    refuses("back", held(1), -2, h -> h.back(0));
  }

  @Says(in = "I", value = "-3 it can't be by what stands")
  static void byWhatStands() {
    refuses("ticket", held(1), -3, h -> h.ticket(1, 0));
    refuses("draw", held(1), -3, h -> h.draw(0, 0));
    refuses("swap", held(1), -3, h -> h.swap(0, 0));
    TicketHall x = held(1);
    x.terms(0, 999);
    refuses("pass", x, -3, h -> h.pass());
    refuses("undo", x, -3, h -> h.undo());
    text(x, "pass");
    refusesText("orders", x, -3, h -> h.orders());
    TicketHall y = held(1);
    y.drop(0);
    refuses("drop", y, -3, h -> h.drop(0));
    refuses("days", new TicketHall(), -3, h -> h.days(0, 1));
  }

  @Says(in = "I", value = "-5 no room")
  static void byNoRoom() {
    refuses("person", full(), -5, h -> h.person(0, 0));
    refuses("ticket", full(), -5, h -> h.ticket(99, 0));
    refuses("desk", full(), -5, h -> h.desk(0, 1));
    refuses("told", full(), -5, h -> h.told(0, 0));
    TicketHall x = full();
    text(x, "fits");
    refusesText("law", x, -5, h -> h.law());
  }

  @Says(in = "I", value = "-6 a TEXT, a ROW that can't be.")
  static void byTexts() {
    TicketHall x = held(1);
    refuses("row", x, -6, h -> h.row());
    text(x, "fit");
    refusesText("law", x, -6, h -> h.law());
    text(x, "pass 1");
    refusesText("orders", x, -6, h -> h.orders());
  }

  @Says(in = "I", value = "The first of these in that order.")
  static void theFirstOfThese() {
    TicketHall x = full();
    due("person: -1 ahead of -5", x.person(5, 0), -1);
    due("ticket: -1 ahead of -3 and -5", x.ticket(10, 5), -1);
    due("ticket: -3 ahead of -5", x.ticket(10, 0), -3);
    due("ticket: -5", x.ticket(9, 0), -5);
    due("desk: -1 ahead of -5", x.desk(0, 0), -1);
    due("wish: -1 ahead of -2", x.wish(6, 8, -1), -1);
    due("told: -1 ahead of -2 and -5", x.told(6, -1), -1);
    due("told: -2 ahead of -5", x.told(6, 0), -2);
    due("draw: -2 for the ticket ahead of -3", x.draw(8, 0), -2);
    due("draw: -2 for the person ahead of -3", x.draw(0, 6), -2);
    due("swap: -2 ahead of -3", x.swap(6, 6), -2);
    due("swap: -2 ahead of -3 for one who holds none", x.swap(5, 6), -2);
    due("back: -1 ahead of -2", x.back(2), -1);
    text(x, "fit");
    due("law: -5 ahead of -6", x.law(), -5);
    TicketHall y = new TicketHall();
    due("days: -1 for the seed ahead of -3", y.days(-1, 1), -1);
    due("days: -1 for how many ahead of -3", y.days(0, 61), -1);
    due("orders: -6 ahead of what can't be", orders(y, "drop 0;drop"), -6);
  }
}
