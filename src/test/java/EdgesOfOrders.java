import java.util.function.Supplier;

/** Term II: orders. */
final class EdgesOfOrders extends Halls {
  private static void good(String... texts) {
    for (String t : texts) due("'" + t + "'", faultOfOrders(t), -1);
  }

  private static void bad(String text, int place) {
    due("'" + text + "'", faultOfOrders(text), place);
  }

  /** Whether a test is so in orders: a minute passes by it and is taken back. */
  private static int isSoNow(TicketHall x, String test) {
    int run = orders(x, "pass if " + test);
    if (run == 1) x.undo();
    return run;
  }

  /** Orders that can't be: where they stop, and that nothing of them stays. */
  private static void stops(Supplier<TicketHall> hall, String text, int clause) {
    TicketHall x = hall.get();
    text(x, text);
    refusesText("'" + text + "'", x, -3, h -> h.orders());
    due("'" + text + "' stops", x.stopped(), clause);
    due("'" + text + "' is off the tape", x.count(7), 0);
    due("'" + text + "' has no fault", x.fault(), -1);
  }

  @Says(in = "II", value = "ORDERS: CLAUSE: (\"draw\" SUM \"by\" SUM | \"swap\" SUM \"with\" SUM | \"drop\" SUM | \"pass\") [\"times\" TIMES] [\"if\" TEST].")
  static void clauses() {
    good("draw 0 by 0", "swap 0 with 1", "drop 0", "pass", "pass times 2", "pass if 1=1", "pass times 2 if 1=1", "draw 0 by 0 times 2 if 1=1",
        "swap 0 with 1 times 2", "drop 0 if 1=1");
    bad("draw 0", 6);
    bad("draw by 0", 5);
    bad("draw 0 by", 9);
    bad("draw 0 with 0", 7);
    bad("draw 0 0", 7);
    bad("swap 0 by 1", 7);
    bad("swap 0 with", 11);
    bad("drop", 4);
    bad("drop 0 by 0", 7);
    bad("drop times 2", 5);
    bad("pass 1", 5);
    bad("pass if 1=1 times 2", 12);
    bad("pass times 2 times 2", 13);
    bad("pass if 1=1 if 1=1", 12);
    bad("takes 1", 0);
    bad("fits", 0);
    bad("undo", 0);
  }

  @Says(in = "II", value = "(a TICKET, a PERSON; a PERSON, another one; a PERSON; a MINUTE.)")
  static void whatTheyAreOf() {
    TicketHall x = new TicketHall();
    for (int i = 0; i < 3; i++) {
      x.person(0, 0);
      x.ticket(40 + i, 0);
    }
    due("draw", orders(x, "draw 2 by 1;draw 0 by 0"), 2);
    due("the ticket by the person", x.of(1, 2), 2);
    due("swap", orders(x, "swap 0 with 1"), 1);
    due("the one's", x.of(0, 2), 2);
    due("the other's", x.of(1, 2), 0);
    due("drop", orders(x, "drop 1"), 1);
    due("the person's", x.at(0, 2), -1);
    due("pass", orders(x, "pass"), 1);
    due("the minute", x.count(14), 1);
    due("the largest there are", orders(x, "draw 8 - 7 by 1 + 1"), 1);
    String[] noSuch = {"draw 3 by 2", "draw 2 by 3", "draw 0 - 1 by 2", "draw 2 by 0 - 1", "swap 0 with 3", "swap 3 with 0", "swap 0 with 0",
        "drop 3", "drop 0 - 1", "drop 1000 * 1000 * 1000", "draw 1000 * 1000 * 1000 by 2"};
    for (String t : noSuch) stops(EdgesOfOrders::oneFree, t, 0);
  }

  /** Three people, of whom two hold each other's tickets; the third ticket is nobody's. */
  private static TicketHall oneFree() {
    TicketHall x = held(3);
    x.drop(2);
    x.swap(0, 1);
    return x;
  }

  private static TicketHall atLastButOne() {
    TicketHall x = held(2);
    x.terms(0, 998);
    return x;
  }

  private static TicketHall barring() {
    TicketHall x = held(3);
    x.drop(1);
    force(x, "bars if person = 1; bars if person = 2 and ticket = 0");
    return x;
  }

  @Says(in = "II", value = "TIMES: a NUMBER 1 .. 20.")
  static void times() {
    for (int n = 1; n <= 20; n++) due("times " + n, orders(new TicketHall(), "pass times " + n), n);
    bad("pass times 0", 11);
    bad("pass times 21", 11);
    bad("pass times 1000", 11);
    bad("pass times 4294967297", 11);
    bad("pass times", 10);
    bad("pass times;pass", 10);
    bad("pass times free", 11);
    bad("pass times [2]", 11);
    bad("pass times 1 + 1", 13);
    bad("pass times - 1", 11);
  }

  @Says(in = "II", value = "Words: \"minute\" | \"done\" | \"latest\" | \"fit\" | \"free\" | \"has\" P | \"patience\" P (P: a NUMBER 0 .. 5).")
  static void words() {
    good("drop minute", "drop done", "drop latest", "drop fit", "drop free");
    for (int p = 0; p <= 5; p++) good("drop has " + p, "drop patience " + p, "drop has" + p);
    bad("drop has 6", 9);
    bad("drop patience 6", 14);
    bad("drop has 10", 9);
    bad("drop has 4294967296", 9);
    bad("drop has", 8);
    bad("drop patience", 13);
    bad("drop has done", 9);
    bad("drop has [1]", 9);
    bad("drop has - 1", 9);
    bad("drop free 1", 10);
    for (String word : new String[] {"person", "business", "ticket", "number", "kind", "speed", "mood", "by", "p"}) bad("drop " + word, 5);
  }

  @Says(in = "II", value = "P, TIMES aside, NUMBERS and words count as PARTS.")
  static void whatCountsAsParts() {
    String forty9 = "drop 9" + "+1".repeat(48);
    good(forty9 + "+has 5", forty9 + "+has 5 times 20", forty9 + "+1 times 20;pass times 20;pass", "drop has 1" + "+patience 2".repeat(30));
    String words = "drop has 1" + "+has 1".repeat(49);
    good(words, words + ";pass times 3");
    bad(words + "+has 1", words.length() + 1);
    bad(words + "+1", words.length() + 1);
    bad(words + ";drop 1", words.length() + 6);
    bad(words + ";pass if 1=1", words.length() + 9);
  }

  @Says(in = "II", value = "Run CLAUSE by CLAUSE, each as often as TIMES tell (once without)")
  static void runClauseByClause() {
    TicketHall x = held(2);
    due("once without", orders(x, "pass"), 1);
    due("as often", orders(x, "pass times 3;pass;pass times 2"), 6);
    due("all of them", x.count(14), 7);
    due("in that order", orders(x, "drop 0;drop 1;draw 0 by 1;draw 1 by 0"), 4);
    due("the ticket", x.of(0, 2), 1);
    due("as many as can be", orders(x, "pass times 20" + ";pass times 20".repeat(11)), 240);
    due("the minute then", x.count(14), 247);
    due("again and again", orders(x, "swap 0 with 1 times 3"), 3);
    due("an odd number of them", x.of(0, 2), 0);
  }

  @Says(in = "II", value = "each time its \"if\" is asked (not run, if it is not so or BROKEN)")
  static void ifIsAskedEachTime() {
    TicketHall x = held(2);
    due("until it is not so", orders(x, "pass times 20 if minute < 3"), 3);
    due("now and then", orders(x, "swap 0 with 1 times 5 if has 0 = 0"), 1);
    due("behind not being so it may be so again", orders(x, "pass times 20 if done < 2;pass times 3 if done > 1"), 5);
    due("not so", orders(x, "pass if 1=2"), 0);
    due("broken", orders(x, "pass if 1/0=1"), 0);
    due("broken, many times", orders(x, "pass times 20 if not 1%0=1"), 0);
    due("not run, so its sums are not asked", orders(x, "drop 1/0 if 1=2;drop 9 if 1/0=1"), 0);
    due("from when it is not broken", orders(x, "pass;pass times 4 if 10 / [done - 1] > 1;pass;pass times 4 if 10 / [done - 1] > 1"), 6);
  }

  @Says(in = "II", value = "then its SUMS from the left.")
  static void sumsThen() {
    TicketHall x = held(2);
    due("with what stands then", orders(x, "drop 0;drop done;draw done - 2 by 1;draw latest by has 0 + 1"), 4);
    due("the first", x.of(1, 2), 0);
    due("the second", x.of(0, 2), 1);
    String[] broken = {"pass;draw 1/0 by 0", "pass;draw 2 by 1/0", "pass;swap 1/0 with 1/0", "pass;drop 1%0", "pass;drop 1000*1000*1000+1"};
    for (String t : broken) stops(EdgesOfOrders::oneFree, t, 1);
  }

  @Says(in = "II", value = "done: how many were run in this TEXT")
  static void done() {
    TicketHall x = held(1);
    due("none", isSoNow(x, "done = 0"), 1);
    due("counted", orders(x, "pass;drop 0;draw 0 by 0;pass if done = 3"), 4);
    due("each time", orders(x, "pass times 5;pass if done = 5"), 6);
    due("those not run aside", orders(x, "pass times 5 if 1=2;pass if done = 0"), 1);
    due("anew in each text", isSoNow(x, "done = 0"), 1);
  }

  @Says(in = "II", value = "latest: what the latest draw in it told (-1: none)")
  static void latest() {
    TicketHall x = new TicketHall();
    x.person(0, 0);
    x.person(0, 0);
    x.ticket(88, 0);
    x.ticket(77, 0);
    due("none", isSoNow(x, "latest = 0 - 1"), 1);
    due("its number, not which it is here", orders(x, "draw 0 by 0;pass if latest = 88"), 2);
    due("in this text alone", isSoNow(x, "latest = 0 - 1"), 1);
    due("not a swap, a drop, a minute", orders(x, "draw 1 by 1;swap 0 with 1;drop 0;pass;pass if latest = 77"), 5);
    due("the latest", orders(x, "drop 1;draw 0 by 0;draw 1 by 1;pass if latest = 77"), 4);
    x.drop(0);
    x.draw(0, 0);
    due("none by a call", isSoNow(x, "latest = 0 - 1"), 1);
  }

  @Says(in = "II", value = "fit: how many PEOPLE hold a TICKET that is FIT")
  static void fit() {
    TicketHall x = new TicketHall();
    due("nobody", isSoNow(x, "fit = 0"), 1);
    for (int i = 0; i < 3; i++) x.person(i, 0);
    for (int i = 0; i < 3; i++) x.ticket(i + 1, i);
    due("nobody holds one", isSoNow(x, "fit = 0"), 1);
    due("as tickets change hands", orders(x, "draw 0 by 0;pass if fit = 1;draw 1 by 1;draw 2 by 2;pass if fit = 3;swap 0 with 1;pass if fit = 1"), 7);
    force(x, "fits if minute > 2");
    due("by the law", orders(x, "pass if fit = 3"), 1);
    x.terms(0, 2);
    due("as the minute passes", orders(x, "pass if fit = 1;pass if fit = 3"), 2);
    TicketHall y = held(6);
    due("all six", orders(y, "pass if fit = 6;drop 5;pass if fit = 5"), 3);
    y.ticket(7, 0);
    y.ticket(8, 0);
    due("of eight tickets", orders(y, "pass if fit = 5;draw 7 by 5;pass if fit = 6"), 3);
    TicketHall z = new TicketHall();
    for (int p = 0; p < 6; p++) z.person(0, 0);
    z.ticket(1, 0);
    due("the last of six people", orders(z, "draw 0 by 5;pass if fit = 1"), 2);
  }

  @Says(in = "II", value = "free: how many TICKETS are nobody's")
  static void free() {
    TicketHall x = new TicketHall();
    due("none", isSoNow(x, "free = 0"), 1);
    x.ticket(1, 0);
    x.ticket(2, 0);
    x.person(0, 0);
    due("all", orders(x, "pass if free = 2;draw 1 by 0;pass if free = 1;drop 0;pass if free = 2"), 5);
    TicketHall y = held(3);
    due("none is", isSoNow(y, "free = 0"), 1);
  }

  @Says(in = "II", value = "has: the TICKET (-1: none; no such PERSON)")
  static void has() {
    TicketHall x = held(2);
    x.person(0, 0);
    due("the first", isSoNow(x, "has 0 = 0"), 1);
    due("the second", isSoNow(x, "has 1 = 1"), 1);
    due("none", isSoNow(x, "has 2 = 0 - 1"), 1);
    due("no such person", isSoNow(x, "has 3 = 0 - 1 and has 5 = 0 - 1"), 1);
    due("as it is then", orders(x, "swap 0 with 1;pass if has 0 = 1;drop 0;pass if has 0 = 0 - 1"), 4);
  }

  @Says(in = "II", value = "patience: -1 without such a PERSON.")
  static void patience() {
    TicketHall x = new TicketHall();
    due("nobody", isSoNow(x, "patience 0 = 0 - 1"), 1);
    x.person(0, 0);
    x.person(0, 99);
    due("the least", isSoNow(x, "patience 0 = 0"), 1);
    due("the most", isSoNow(x, "patience 1 = 99"), 1);
    due("none behind", isSoNow(x, "patience 2 = 0 - 1 and patience 5 = 0 - 1"), 1);
  }

  @Says(in = "II", value = "One that can't be (a BROKEN SUM, as draw(), swap(), drop(), pass() are REFUSED) ends it: all is as it was ahead of it.")
  static void oneThatCannotBe() {
    stops(EdgesOfOrders::oneFree, "drop 0;draw 1 by 2;pass times 5;drop 0", 3);
    stops(EdgesOfOrders::oneFree, "pass times 20;pass times 20;draw 2 by 2;draw 1 by 2", 3);
    stops(EdgesOfOrders::oneFree, "drop 2", 0);
    stops(EdgesOfOrders::oneFree, "pass;drop 0 times 2", 1);
    stops(EdgesOfOrders::oneFree, "swap 0 with 1;swap 0 with 2;pass", 1);
    stops(EdgesOfOrders::oneFree, "pass;".repeat(11) + "drop 9", 11);
    stops(EdgesOfOrders::atLastButOne, "pass;pass", 1);
    stops(EdgesOfOrders::atLastButOne, "pass times 2", 0);
    stops(EdgesOfOrders::barring, "pass;draw 1 by 1", 1);
    stops(EdgesOfOrders::barring, "pass;swap 0 with 2", 1);
    stops(EdgesOfOrders::barring, "pass;swap 2 with 0", 1);
    TicketHall x = oneFree();
    orders(x, "pass times 20;drop 9");
    due("what was ahead of it can be undone still", x.undo(), 1);
    due("and what was ahead of that", x.undo(), 2);
    due("held again", x.of(2, 2), 2);
    TicketHall y = atLastButOne();
    due("one alone can be", orders(y, "pass"), 1);
  }
}
