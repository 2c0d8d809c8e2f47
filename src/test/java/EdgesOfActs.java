/** Term III: to draw, to swap, to drop, and minutes. */
final class EdgesOfActs extends Halls {
  /** Numbers 7 and 8; person 0 holds the second, person 1 none. */
  private static TicketHall oneHolds() {
    TicketHall x = new TicketHall();
    x.person(0, 0);
    x.person(1, 1);
    x.ticket(7, 0);
    x.ticket(8, 1);
    x.draw(1, 0);
    return x;
  }

  @Says(in = "III", value = "To DRAW: a PERSON without a TICKET takes one that is nobody's, from which it is not BARRED.")
  static void draw() {
    refuses("one with a ticket", oneHolds(), -3, h -> h.draw(0, 0));
    refuses("its own", oneHolds(), -3, h -> h.draw(1, 0));
    refuses("another one's", oneHolds(), -3, h -> h.draw(1, 1));
    TicketHall x = oneHolds();
    force(x, "bars if person = 1 and number = 7");
    refuses("barred", x, -3, h -> h.draw(0, 1));
    x.drop(0);
    due("another one is not barred", x.draw(0, 0), 7);
    due("nor from another ticket", x.draw(1, 1), 8);
    due("held", x.of(1, 2), 1);
    due("by it", x.at(1, 2), 1);
    due("both are held", x.count(2), 2);
    TicketHall y = oneHolds();
    law(y, "bars");
    y.force(0);
    due("barred now", y.draw(0, 1), -3);
    y.force(-1);
    due("not any more", y.draw(0, 1), 7);
    y.force(0);
    y.drop(1);
    due("and barred again", y.draw(0, 1), -3);
  }

  @Says(in = "III", value = "To SWAP: two who hold TICKETS hold each other's then, neither of them BARRED from that.")
  static void swap() {
    TicketHall x = held(2);
    due("swap", x.swap(0, 1), 1);
    due("one's", x.of(0, 2), 1);
    due("the other's", x.of(1, 2), 0);
    due("the first is the other's", x.at(0, 2), 1);
    due("the second is the one's", x.at(1, 2), 0);
    due("and back", x.swap(1, 0), 1);
    due("as it was", x.of(0, 2), 0);
    refuses("one holds none", oneHolds(), -3, h -> h.swap(1, 0));
    refuses("the other holds none", oneHolds(), -3, h -> h.swap(0, 1));
    TicketHall y = held(2);
    force(y, "bars if person = 0 and ticket = 1");
    refuses("the one is barred", y, -3, h -> h.swap(0, 1));
    refuses("the other is barred", y, -3, h -> h.swap(1, 0));
    TicketHall z = held(2);
    force(z, "bars if person = ticket");
    due("barred from what they hold now alone", z.swap(0, 1), 1);
    refuses("not back, then", z, -3, h -> h.swap(0, 1));
    z.force(-1);
    due("but without that law", z.swap(0, 1), 0);
    z.force(0);
    due("and again by it", z.swap(0, 1), 1);
    due("and no more", z.swap(0, 1), -3);
  }

  @Says(in = "III", value = "To DROP: it is nobody's.")
  static void drop() {
    TicketHall x = held(2);
    due("drop", x.drop(0), 0);
    due("holds none", x.of(0, 2), -1);
    due("nobody's", x.at(0, 2), -1);
    due("one is held", x.count(2), 1);
    due("the other one's stays", x.of(1, 2), 1);
    refuses("none to drop", x, -3, h -> h.drop(0));
    force(x, "bars");
    due("even what it is barred from", x.drop(1), 1);
    x.force(-1);
    due("another one may have it", x.draw(0, 1), 1);
  }

  @Says(in = "III", value = "A MINUTE passes (MINUTE below 999).")
  static void minute() {
    TicketHall x = new TicketHall();
    due("the first", x.pass(), 1);
    x.terms(0, 997);
    due("the last but one", x.pass(), 998);
    due("the last", x.pass(), 999);
    refuses("no more", x, -3, h -> h.pass());
    due("999 still", x.count(14), 999);
    due("undone", x.undo(), 3);
    due("998 again", x.count(14), 998);
    due("once more", x.pass(), 999);
  }
}
