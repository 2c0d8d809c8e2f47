/** How long a hall is used, the constants, and promises 1 to 23: what makes and changes a hall. */
final class EdgesOfCalls extends Halls {
  private static final int MIN = Integer.MIN_VALUE, MAX = Integer.MAX_VALUE;

  @Says(in = "use", value = "An object is used for at most 512 calls after it has been made; what later calls answer is free.")
  static void all512Calls() {
    TicketHall x = new TicketHall();
    int calls = 0;
    for (int i = 0; i < 256; i++) {
      due("call " + ++calls, x.pass(), i + 1);
      due("call " + ++calls, x.count(6), Math.min(i + 1, 16));
    }
    due("calls", calls, 512);
    TicketHall z = new TicketHall();
    for (int i = 0; i < 256; i++) {
      // "pass if 2*2=4*1+0*0 " and "drop 2*2+4*1+0*0 if " take turns.
      if (i % 2 == 0) z.feed(0x70617373, 0x20696620, 0x322a323d, 0x342a312b, 0x302a3020);
      else z.feed(0x64726f70, 0x20322a32, 0x2b342a31, 0x2b302a30, 0x20696620);
      due("text " + i, z.orders(), i % 2 == 0 ? 1 : -6);
    }
    TicketHall y = held(6);
    due("18 calls", y.count(2), 6);
    for (int i = 0; i < 492; i += 4) {
      due("dear calls", y.about(1), 6000);
      due("dear ones", y.had(719, 0), 5);
      due("and dearer ones", y.swap(0, 1), y.of(0, 2));
    }
  }

  @Says(in = "constants", value = "`NONE = -1`: There is none.")
  static void constants() {
    due("NONE", TicketHall.NONE, -1);
    due("there is none", new TicketHall().of(0, 0), TicketHall.NONE);
  }

  @Says(in = "Promise 1", value = "An empty hall.")
  static void anEmptyHall() {
    TicketHall x = new TicketHall();
    int[] counts = {0, 0, 0, 0, 0, 0, 0, 0, 0, 0, 0, 0, 0, -1, 0, 9, 0};
    for (int what = 0; what <= 16; what++) due("count(" + what + ")", x.count(what), counts[what]);
    due("status", x.status(), 0);
    alike("tape, scraps, fault, stopped, drawn", marks(x), "0 0 -1 -1 -1 -1 -1 -1 -1 -1");
    due("nobody", x.of(0, 2), -1);
    due("no ticket", x.at(0, 2), -1);
    due("no day", x.day(0, 0), -1);
    due("no image", x.back(0), -2);
    due("nor the other", x.back(1), -2);
    due("nothing to undo", x.undo(), -3);
    TicketHall y = held(6);
    due("another one is full", y.count(0), 6);
    due("this one is its own", x.count(0), 0);
  }

  @Says(in = "Promise 2", value = {"A PERSON: the number.", "-1", "-5."})
  static void person() {
    for (int bad : new int[] {-1, 5, MIN, MAX}) refuses("business " + bad, held(1), -1, h -> h.person(bad, 0));
    for (int bad : new int[] {-1, 100, MIN, MAX}) refuses("patience " + bad, held(1), -1, h -> h.person(0, bad));
    TicketHall x = new TicketHall();
    for (int p = 0; p < 6; p++) due("the number", x.person(4, 99), p);
    refuses("no room", x, -5, h -> h.person(4, 99));
    due("not refused", held(1).person(0, 0), 1);
  }

  @Says(in = "Promise 3", value = {"Of a PERSON BUSINESS (what 0), PATIENCE (1), the TICKET it holds (2; NONE), what a minute COSTS (3).", "NONE."})
  static void of() {
    TicketHall x = held(1);
    x.person(4, 99);
    int[] first = {0, 10, 0, 1}, second = {4, 99, -1, 1};
    for (int what = 0; what < 4; what++) {
      due("the first, what " + what, x.of(0, what), first[what]);
      due("the last, what " + what, x.of(1, what), second[what]);
      for (int bad : new int[] {-1, 2, MIN, MAX}) due("person " + bad + ", what " + what, x.of(bad, what), -1);
    }
    for (int bad : new int[] {-1, 4, MIN, MAX}) due("what " + bad, x.of(0, bad), -1);
  }

  @Says(in = "Promise 4", value = {"A TICKET: its number here.", "-1", "-3 the NUMBER is there", "-5."})
  static void ticket() {
    for (int bad : new int[] {0, 100, -1, MIN, MAX}) refuses("number " + bad, held(1), -1, h -> h.ticket(bad, 0));
    for (int bad : new int[] {-1, 5, MIN, MAX}) refuses("kind " + bad, held(1), -1, h -> h.ticket(50, bad));
    refuses("held", held(1), -3, h -> h.ticket(1, 0));
    refuses("of another kind", held(1), -3, h -> h.ticket(1, 4));
    TicketHall x = new TicketHall();
    for (int t = 0; t < 8; t++) due("its number here", x.ticket(99 - t, 4), t);
    refuses("no room", x, -5, h -> h.ticket(1, 0));
    refuses("there, and no room", x, -3, h -> h.ticket(92, 0));
  }

  @Says(in = "Promise 5", value = {"Of a TICKET NUMBER (what 0), KIND (1), who holds it (2; NONE).", "NONE."})
  static void at() {
    TicketHall x = held(2);
    x.ticket(99, 4);
    int[] first = {1, 0, 0}, last = {99, 4, -1};
    for (int what = 0; what < 3; what++) {
      due("the first, what " + what, x.at(0, what), first[what]);
      due("the last, what " + what, x.at(2, what), last[what]);
      for (int bad : new int[] {-1, 3, MIN, MAX}) due("ticket " + bad + ", what " + what, x.at(bad, what), -1);
    }
    for (int bad : new int[] {-1, 3, MIN, MAX}) due("what " + bad, x.at(0, bad), -1);
  }

  @Says(in = "Promise 6", value = {"What a PERSON WISHES for a TICKET: what it was.", "-1", "-2."})
  static void wish() {
    TicketHall x = held(2);
    due("0 at first", x.wish(1, 0, 9), 0);
    due("what it was", x.wish(1, 0, 0), 9);
    due("and then", x.wish(1, 0, 4), 0);
    for (int bad : new int[] {-1, 10, MIN, MAX}) refuses("value " + bad, held(2), -1, h -> h.wish(1, 0, bad));
    for (int bad : new int[] {-1, 2, MIN, MAX}) refuses("person " + bad, held(2), -2, h -> h.wish(bad, 0, 1));
    for (int bad : new int[] {-1, 2, MIN, MAX}) refuses("ticket " + bad, held(2), -2, h -> h.wish(0, bad, 1));
  }

  @Says(in = "Promise 7", value = {"A DESK: its number.", "-1", "-5."})
  static void desk() {
    for (int bad : new int[] {-1, 32, MIN, MAX}) refuses("opens " + bad, held(1), -1, h -> h.desk(bad, 1));
    for (int bad : new int[] {0, 10, -1, MIN, MAX}) refuses("speed " + bad, held(1), -1, h -> h.desk(1, bad));
    TicketHall x = new TicketHall();
    for (int d = 0; d < 3; d++) due("its number", x.desk(31, 9), d);
    refuses("no room", x, -5, h -> h.desk(31, 9));
  }

  @Says(in = "Promise 8", value = {"Of a PERSON and a TICKET WISHES (what 0), whether FIT (1: 1, 0), BARRED (2: 1, 0), how long it TAKES at DESK d (3 and d).", "NONE."})
  static void asks() {
    TicketHall x = held(1);
    x.ticket(50, 3);
    x.wish(0, 1, 9);
    x.desk(31, 1);
    x.desk(31, 2);
    force(x, "bars if ticket = 1");
    int[] first = {0, 1, 0, 21, 11}, second = {9, 0, 1, 21, 11};
    for (int what = 0; what < 5; what++) {
      due("ticket 0, what " + what, x.asks(0, 0, what), first[what]);
      due("ticket 1, what " + what, x.asks(0, 1, what), second[what]);
      for (int bad : new int[] {-1, 1, MIN, MAX}) due("person " + bad + ", what " + what, x.asks(bad, 0, what), -1);
      for (int bad : new int[] {-1, 2, MIN, MAX}) due("ticket " + bad + ", what " + what, x.asks(0, bad, what), -1);
    }
    for (int bad : new int[] {-1, 5, 6, MIN, MIN + 3, MAX}) due("what " + bad, x.asks(0, 0, bad), -1);
    x.desk(0, 9);
    due("the last desk, though it opens for none", x.asks(0, 0, 5), 3);
    due("none behind", x.asks(0, 0, 6), -1);
  }

  @Says(in = "Promise 9", value = {"A TERM: what it was.", "-1."})
  static void terms() {
    int[] most = {999, 10, 9}, was = {0, 9, 0};
    for (int what = 0; what < 3; what++) {
      int term = what;
      TicketHall x = held(1);
      due("what it was", x.terms(term, most[term]), was[term]);
      due("and then", x.terms(term, 0), most[term]);
      due("the least", x.terms(term, 1), 0);
      for (int bad : new int[] {-1, most[what] + 1, MIN, MAX}) refuses("term " + what + " of " + bad, held(1), -1, h -> h.terms(term, bad));
    }
    for (int bad : new int[] {-1, 3, MIN, MAX}) refuses("term " + bad, held(1), -1, h -> h.terms(bad, 0));
  }

  @Says(in = "Promise 10", value = {"Twenty bytes come behind the TAPE, four of each number, the highest first: how many it has.", "NONE, if there would be more than 400."})
  static void feed() {
    TicketHall x = new TicketHall();
    // "fits;bars if 1 = 2  " in fours.
    due("how many it has", x.feed(0x66697473, 0x3b626172, 0x73206966, 0x2031203d, 0x20322020), 20);
    due("a law", x.law(), 0);
    x.feed(0x20202066, 0x20202020, 0x20202020, 0x20202020, 0x20202020);
    x.end(4);
    due("behind the tape", x.feed(0x6974733b, 0x62617273, 0x20202020, 0x20202020, 0x20202020), 24);
    due("another law", x.law(), 1);
    x.feed(0xFF000000, 0x00FF0000, 0x0000FF00, 0x000000FF, MIN);
    due("bytes above 127", x.row(), 0);
    due("ten scraps", x.scraps(), 10);
    for (int i = 1; i <= 20; i++) due("how many it has", x.feed(i, i, i, i, i), 20 * i);
    String marks = marks(x);
    due("no more", x.feed(0, 0, 0, 0, 0), -1);
    due("nor then", x.feed(1, 2, 3, 4, 5), -1);
    alike("the tape stays", marks(x), marks);
    due("refused is another thing", x.count(8), 0);
    x.end(381);
    due("401 bytes", x.feed(0, 0, 0, 0, 0), -1);
    x.end(380);
    due("400 bytes", x.feed(0, 0, 0, 0, 0), 400);
  }

  @Says(in = "Promise 11", value = {"The TAPE has its first n bytes alone: n.", "NONE, if it has not so many, or n is below 0."})
  static void end() {
    TicketHall x = new TicketHall();
    due("an empty tape", x.end(0), 0);
    due("has not one", x.end(1), -1);
    x.feed(0x05010602, 0x07030800, 0x09010a02, 0, 0);
    for (int bad : new int[] {-1, 21, 400, MIN, MAX}) due(bad + " bytes", x.end(bad), -1);
    due("all", x.end(20), 20);
    due("twelve", x.end(12), 12);
    due("not thirteen now", x.end(13), -1);
    due("six", x.end(6), 6);
    due("six bytes", x.count(7), 6);
    due("the first ones", x.row(), 3);
    due("the first", x.at(0, 0), 5);
    due("the third", x.at(2, 0), 7);
    due("refused is another thing", x.count(8), 0);
  }

  @Says(in = "Promise 12", value = {"A ROW, the TAPE is empty then: how many TICKETS came.", "-6 the TAPE is empty."})
  static void row() {
    TicketHall x = held(1);
    refuses("empty", x, -6, h -> h.row());
    bytes(x, 5, 0, 6, 1);
    due("two came", x.row(), 2);
    due("empty then", x.count(7), 0);
    refuses("empty again", x, -6, h -> h.row());
    bytes(x, 5, 0);
    due("none came, but it is not refused", x.row(), 0);
    due("status", x.status(), 0);
    due("empty then, too", x.count(7), 0);
  }

  @Says(in = "Promise 13", value = "How many SCRAPS the latest row() had that was not REFUSED (0 ahead of any).")
  static void scraps() {
    TicketHall x = new TicketHall();
    due("ahead of any", x.scraps(), 0);
    x.row();
    due("a refused one", x.scraps(), 0);
    bytes(x, 0, 0, 0);
    x.row();
    due("two", x.scraps(), 2);
    x.row();
    due("behind a refused one", x.scraps(), 2);
    law(x, "x");
    due("a law has none", x.scraps(), 2);
    bytes(x, 1, 1);
    x.row();
    due("none", x.scraps(), 0);
  }

  @Says(in = "Promise 14", value = {"The TAPE, which is empty then, becomes a LAW: its number.", "-5 (ahead of reading it; the TAPE is empty then, too)", "-6 (blanks alone: FAULT at the end)."})
  static void law() {
    TicketHall x = held(1);
    due("its number", law(x, "fits"), 0);
    due("empty then", x.count(7), 0);
    text(x, "");
    refusesText("an empty tape", x, -6, h -> h.law());
    due("at the end", x.fault(), 0);
    text(x, "     ");
    refusesText("blanks", x, -6, h -> h.law());
    due("at their end", x.fault(), 5);
    due("empty behind a fault", x.count(7), 0);
    law(x, " ".repeat(400));
    due("as many blanks as can be", x.fault(), 400);
    due("the next one's number", law(x, "bars"), 1);
    TicketHall y = full();
    text(y, "takes");
    refusesText("no room", y, -5, h -> h.law());
    due("it was not read", y.fault(), -1);
    due("empty then, too", y.count(7), 0);
    due("an empty tape and no room", y.law(), -5);
  }

  @Says(in = "Promise 15", value = {"ORDERS, the TAPE is empty then: how many were run.", "-3 one can't be", "-6 (as for law())."})
  static void orders() {
    TicketHall x = held(1);
    due("none run", orders(x, "pass if 1=2"), 0);
    due("not refused", x.status(), 0);
    due("two", orders(x, "pass times 2"), 2);
    due("empty then", x.count(7), 0);
    text(x, "pass;drop 1");
    refusesText("one can't be", x, -3, h -> h.orders());
    due("empty then, too", x.count(7), 0);
    text(x, "");
    refusesText("an empty tape", x, -6, h -> h.orders());
    due("at the end", x.fault(), 0);
    text(x, "   ");
    refusesText("blanks", x, -6, h -> h.orders());
    due("at their end", x.fault(), 3);
    text(x, "pass;pass;drop");
    refusesText("a fault behind two", x, -6, h -> h.orders());
    due("empty behind a fault", x.count(7), 0);
  }

  @Says(in = "Promise 16", value = "FAULT of the latest law(), orders() that read a TEXT: its place; NONE without.")
  static void fault() {
    TicketHall x = full();
    orders(x, "pass;x");
    due("its place", x.fault(), 5);
    law(x, "fits");
    due("a law that was not read", x.fault(), 5);
    bytes(x, 1);
    x.row();
    due("a row is no text", x.fault(), 5);
    orders(x, "drop 5");
    due("read, though it can't be", x.fault(), -1);
    orders(x, "");
    due("the first place", x.fault(), 0);
    orders(x, "pass");
    due("without", x.fault(), -1);
    TicketHall y = new TicketHall();
    law(y, "fits 1");
    due("a law's", y.fault(), 5);
    law(y, "fits");
    due("without, too", y.fault(), -1);
  }

  @Says(in = "Promise 17", value = {"Which CLAUSE of the latest orders() could not be.", "NONE."})
  static void stopped() {
    TicketHall x = new TicketHall();
    due("ahead of any", x.stopped(), -1);
    orders(x, "drop 0");
    due("the first", x.stopped(), 0);
    law(x, "fits");
    due("a law does not matter", x.stopped(), 0);
    x.pass();
    due("nor a call", x.stopped(), 0);
    orders(x, "pass;".repeat(11) + "drop 0");
    due("the twelfth", x.stopped(), 11);
    orders(x, "pass");
    due("all could be", x.stopped(), -1);
    orders(x, "pass times 2;drop 0 times 3");
    due("the second", x.stopped(), 1);
    orders(x, "pass;");
    due("a fault: none could not be", x.stopped(), -1);
  }

  @Says(in = "Promise 18", value = {"A LAW is in FORCE (NONE: none): which was.", "-2."})
  static void force() {
    TicketHall x = held(1);
    due("none, and none was", x.force(-1), -1);
    for (int i = 0; i < 6; i++) law(x, "costs " + i);
    due("none was", x.force(5), -1);
    due("the last was", x.force(0), 5);
    due("the same again", x.force(0), 0);
    due("none", x.force(-1), 0);
    due("none was again", x.force(-1), -1);
    for (int bad : new int[] {-2, 6, MIN, MAX}) {
      TicketHall y = held(1);
      for (int i = 0; i < 6; i++) law(y, "costs " + i);
      y.force(3);
      refuses("law " + bad, y, -2, h -> h.force(bad));
    }
    refuses("ahead of any", held(1), -2, h -> h.force(0));
  }

  @Says(in = "Promise 19", value = {"To DRAW: its NUMBER.", "-2", "-3."})
  static void draw() {
    TicketHall x = held(1);
    x.ticket(99, 0);
    x.person(0, 0);
    due("its number", x.draw(1, 1), 99);
    for (int bad : new int[] {-1, 1, MIN, MAX}) refuses("ticket " + bad, held(1), -2, h -> h.draw(bad, 0));
    for (int bad : new int[] {-1, 1, MIN, MAX}) refuses("person " + bad, held(1), -2, h -> h.draw(0, bad));
    refuses("it holds one", held(1), -3, h -> h.draw(0, 0));
    refuses("nobody is there", new TicketHall(), -2, h -> h.draw(0, 0));
  }

  @Says(in = "Promise 20", value = {"To SWAP: the TICKET the first one holds then.", "-2", "-3 (with itself, too)."})
  static void swap() {
    due("the first one's", held(2).swap(0, 1), 1);
    due("the other way", held(2).swap(1, 0), 0);
    for (int bad : new int[] {-1, 2, MIN, MAX}) refuses("person " + bad, held(2), -2, h -> h.swap(bad, 0));
    for (int bad : new int[] {-1, 2, MIN, MAX}) refuses("with person " + bad, held(2), -2, h -> h.swap(0, bad));
    refuses("with itself", held(2), -3, h -> h.swap(1, 1));
    TicketHall x = held(2);
    x.drop(1);
    refuses("with itself, holding none", x, -3, h -> h.swap(1, 1));
    refuses("with one who holds none", x, -3, h -> h.swap(0, 1));
    refuses("nobody with itself", held(2), -2, h -> h.swap(2, 2));
  }

  @Says(in = "Promise 21", value = {"To DROP: the TICKET.", "-2", "-3."})
  static void drop() {
    due("the first ticket", held(2).drop(0), 0);
    due("the last", held(6).drop(5), 5);
    for (int bad : new int[] {-1, 2, MIN, MAX}) refuses("person " + bad, held(2), -2, h -> h.drop(bad));
    TicketHall x = held(2);
    x.drop(1);
    refuses("it holds none", x, -3, h -> h.drop(1));
  }

  @Says(in = "Promise 22", value = {"A MINUTE: its number.", "-3."})
  static void pass() {
    TicketHall x = held(1);
    due("its number", x.pass(), 1);
    x.terms(0, 998);
    due("the last", x.pass(), 999);
    refuses("no more", x, -3, h -> h.pass());
  }

  @Says(in = "Promise 23", value = "The latest draw(), swap(), drop(), pass() (by ORDERS, too;")
  static void undoTheLatest() {
    TicketHall x = held(2);
    due("a draw", x.undo(), 0);
    due("nobody's again", x.at(1, 2), -1);
    due("holds none again", x.of(1, 2), -1);
    x.draw(1, 1);
    x.swap(0, 1);
    due("a swap", x.undo(), 1);
    due("each its own", x.of(0, 2) * 10 + x.of(1, 2), 1);
    x.drop(0);
    due("a drop", x.undo(), 2);
    due("held again", x.of(0, 2), 0);
    due("by it", x.at(0, 2), 0);
    x.pass();
    due("a minute", x.undo(), 3);
    due("as ahead of it", x.count(14), 0);
    orders(x, "drop 0;pass;drop 1;draw 0 by 1;draw 1 by 0;swap 0 with 1");
    int[] acts = {1, 0, 0, 2, 3, 2};
    for (int act : acts) due("by orders", x.undo(), act);
    due("as ahead of the orders", x.of(0, 2) * 10 + x.of(1, 2), 1);
    x.draw(0, 0);
    due("a refused one is none", x.undo(), 0);
    due("undo itself is none", x.undo(), 0);
    refuses("nothing is left", x, -3, h -> h.undo());
    // The last tickets of the first people, and the other way.
    TicketHall y = new TicketHall();
    for (int p = 0; p < 6; p++) y.person(0, 0);
    for (int t = 0; t < 8; t++) y.ticket(t + 1, 0);
    String none = state(y);
    y.draw(7, 0);
    String one = state(y);
    y.draw(0, 5);
    String two = state(y);
    y.swap(5, 0);
    String swapped = state(y);
    y.drop(5);
    String dropped = state(y);
    y.drop(0);
    String[] states = {dropped, swapped, two, one, none};
    int[] what = {2, 2, 1, 0, 0};
    for (int i = 0; i < 5; i++) {
      due("undone of eight tickets", y.undo(), what[i]);
      alike("as ahead of it", state(y), states[i]);
    }
  }

  @Says(in = "Promise 23", value = "16 are kept) is undone: 0 .. 3.")
  static void undoSixteen() {
    TicketHall x = new TicketHall();
    for (int i = 1; i <= 17; i++) {
      x.pass();
      due("how many", x.count(6), Math.min(i, 16));
    }
    for (int i = 16; i >= 1; i--) {
      due("undone", x.undo(), 3);
      due("left", x.count(6), i - 1);
    }
    refuses("the first of 17 is not kept", x, -3, h -> h.undo());
    due("one minute", x.count(14), 1);
    TicketHall y = held(1);
    orders(y, "pass times 20;drop 0");
    due("sixteen of twenty-two", y.count(6), 16);
    due("a drop", y.undo(), 2);
    for (int i = 0; i < 15; i++) due("minutes", y.undo(), 3);
    due("no more", y.undo(), -3);
    due("five minutes", y.count(14), 5);
    TicketHall z = held(1);
    for (int i = 0; i < 40; i++) due("round and round", i % 2 == 0 ? z.drop(0) : z.draw(0, 0), i % 2);
    for (int i = 0; i < 16; i++) due("undone", z.undo(), i % 2 == 0 ? 0 : 2);
    due("held", z.of(0, 2), 0);
  }

  @Says(in = "Promise 23", value = {"-3 there is none (nothing that was ahead of a person(), ticket(), terms(), row() that was not REFUSED can be undone)."})
  static void undoNothingAhead() {
    refuses("an empty hall", new TicketHall(), -3, h -> h.undo());
    TicketHall first = new TicketHall();
    first.pass();
    first.person(0, 0);
    refuses("the first person", first, -3, h -> h.undo());
    first.pass();
    first.ticket(1, 0);
    refuses("the first ticket", first, -3, h -> h.undo());
    TicketHall p = held(1), t = held(1), c = held(1), r = held(1), s = held(1);
    p.person(0, 0);
    t.ticket(50, 0);
    c.terms(2, 0);
    bytes(r, 60, 0);
    r.row();
    bytes(s, 0);
    s.row();
    refuses("a person", p, -3, h -> h.undo());
    refuses("a ticket", t, -3, h -> h.undo());
    refuses("a term, though it was the same", c, -3, h -> h.undo());
    refuses("a row", r, -3, h -> h.undo());
    refuses("a row of scraps", s, -3, h -> h.undo());
    p.pass();
    due("what is behind can be", p.undo(), 3);
    refuses("that alone", p, -3, h -> h.undo());
    TicketHall x = full();
    x.person(0, 0);
    x.person(9, 0);
    x.ticket(50, 0);
    x.ticket(10, 0);
    x.ticket(0, 0);
    x.terms(3, 0);
    x.terms(1, 11);
    x.row();
    x.desk(31, 1);
    x.told(0, 0);
    x.forget();
    x.wish(0, 0, 4);
    x.force(2);
    x.force(-1);
    x.image(0);
    x.days(3, 9);
    law(x, "fits");
    orders(x, "drop 9");
    orders(x, "x");
    due("refused ones and others are not in the way", x.count(6), 2);
    due("the second draw", x.undo(), 0);
    due("the first draw", x.undo(), 0);
    due("no more", x.undo(), -3);
  }
}
