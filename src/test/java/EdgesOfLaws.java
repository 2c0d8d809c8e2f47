/** Term II: laws. */
final class EdgesOfLaws extends Halls {
  /** Person 3 (business 2, patience 45), ticket 2 (number 30, kind 1), desks of speeds 1, 9, 4; minute 77, mood 6. */
  private static TicketHall asked(String law) {
    TicketHall x = new TicketHall();
    for (int p = 0; p < 4; p++) x.person(p == 3 ? 2 : 0, 15 * p);
    x.ticket(10, 0);
    x.ticket(20, 4);
    x.ticket(30, 1);
    x.desk(31, 1);
    x.desk(31, 9);
    x.desk(31, 4);
    x.terms(0, 77);
    x.terms(2, 6);
    if (!law.isEmpty()) force(x, law);
    return x;
  }

  @Says(in = "II", value = "LAWS, 6 at most")
  static void sixLaws() {
    TicketHall x = new TicketHall();
    x.person(0, 0);
    for (int i = 0; i < 6; i++) due("its number", law(x, "costs " + (i + 2)), i);
    text(x, "costs 9");
    refusesText("a seventh", x, -5, h -> h.law());
    due("six", x.count(5), 6);
    for (int i = 0; i < 6; i++) {
      x.force(i);
      due("each its own", x.of(0, 3), i + 2);
    }
    refuses("no seventh to be in force", x, -2, h -> h.force(6));
  }

  @Says(in = "II", value = "one is in FORCE (NONE at first: no CLAUSE)")
  static void noneInForce() {
    TicketHall x = asked("");
    law(x, "takes 50; costs 7; fits; bars");
    due("none at first", x.count(13), -1);
    due("takes", x.asks(3, 2, 3), 21);
    due("costs", x.of(3, 3), 1);
    due("fits", x.asks(3, 2, 1), 0);
    due("bars", x.asks(3, 2, 2), 0);
    x.force(0);
    due("the first law", x.count(13), 0);
    due("takes by it", x.asks(3, 2, 3), 50);
    due("costs by it", x.of(3, 3), 7);
    due("fits by it", x.asks(3, 2, 1), 1);
    due("bars by it", x.asks(3, 2, 2), 1);
  }

  @Says(in = "II", value = "CLAUSE: ((\"takes\" | \"costs\") SUM | \"fits\" | \"bars\") [\"if\" TEST].")
  static void clauses() {
    String[] good = {"takes 1", "costs 1", "fits", "bars", "takes 1 if 1=1", "costs 1 if 1=1", "fits if 1=1", "bars if 1=1"};
    for (String t : good) due("'" + t + "'", faultOfLaw(t), -1);
    Object[][] bad = {{"takes", 5}, {"costs", 5}, {"takes if 1=1", 6}, {"costs;", 5}, {"fits 1", 5}, {"bars 1", 5}, {"fits if", 7}, {"bars if 1", 9},
        {"takes 1 if 1=1 if 1=1", 15}, {"if 1=1", 0}, {"takes 1 2", 8}, {"pass", 0}, {"draw 0 by 0", 0}, {"takes 1 times 2", 8}, {"takes 1=1", 7},
        {"takes not 1", 6}, {"fits if 1", 9}, {"fits if fits", 8}};
    for (Object[] t : bad) due("'" + t[0] + "'", faultOfLaw((String) t[0]), (Integer) t[1]);
  }

  @Says(in = "II", value = "Words: \"person\" | \"business\" | \"patience\" | \"ticket\" | \"number\" | \"kind\" | \"speed\" | \"minute\" | \"mood\".")
  static void words() {
    String[] words = {"person", "business", "patience", "ticket", "number", "kind", "speed", "minute", "mood"};
    int[] values = {3, 2, 45, 2, 30, 1, 4, 77, 6};
    for (int i = 0; i < words.length; i++) {
      TicketHall x = asked("takes 50 if " + words[i] + " = " + values[i]);
      due(words[i], x.asks(3, 2, 5), 50);
    }
    for (String word : new String[] {"done", "latest", "fit", "free", "has", "desk", "comes", "persons", "perso", "a", "or"})
      due("'" + word + "' is none", faultOfLaw("takes " + word), 6);
    due("no number behind patience here", faultOfLaw("takes patience 0"), 15);
  }

  @Says(in = "II", value = "\"takes\" is asked of a PERSON, a TICKET and a DESK (speed: its SPEED)")
  static void takesIsAsked() {
    TicketHall x = asked("takes speed + 10; takes 30 if person = 0; takes 40 if ticket = 0");
    due("desk 0", x.asks(3, 2, 3), 11);
    due("desk 1", x.asks(3, 2, 4), 19);
    due("desk 2", x.asks(3, 2, 5), 14);
    due("of a person", x.asks(0, 2, 3), 30);
    due("of a ticket", x.asks(3, 0, 3), 40);
  }

  @Says(in = "II", value = "\"costs\" of a PERSON (ticket, number, kind, speed -1)")
  static void costsIsAsked() {
    for (String word : new String[] {"ticket", "number", "kind", "speed"}) {
      TicketHall x = asked("costs 5 if " + word + " = 0 - 1");
      due(word, x.of(3, 3), 5);
      x.draw(2, 3);
      due(word + " of one who holds a ticket", x.of(3, 3), 5);
    }
    TicketHall y = asked("costs patience / 10 + person + business + minute - 77 + mood - 6");
    due("of the person", y.of(3, 3), 9);
    due("of another", y.of(1, 3), 2);
  }

  @Says(in = "II", value = "\"fits\", \"bars\" of a PERSON and a TICKET (speed -1).")
  static void fitsAndBarsAreAsked() {
    TicketHall x = asked("fits if speed = 0 - 1 and person = 3 and ticket = 2; bars if speed = 0 - 1 and person = 0 and number = 10");
    due("fits", x.asks(3, 2, 1), 1);
    due("another ticket", x.asks(3, 1, 1), 0);
    due("another person", x.asks(2, 2, 1), 0);
    due("bars", x.asks(0, 0, 2), 1);
    due("bars another ticket", x.asks(0, 1, 2), 0);
    due("bars another person", x.asks(1, 0, 2), 0);
  }

  @Says(in = "II", value = "A CLAUSE HOLDS, if its \"if\" (if it has one) is so, and neither that nor its SUM is BROKEN.")
  static void holds() {
    due("without an if", asked("costs 4").of(3, 3), 4);
    due("if it is so", asked("costs 4 if 1=1").of(3, 3), 4);
    due("if it is not so", asked("costs 4 if 1=2").of(3, 3), 1);
    due("if it is broken", asked("costs 4 if 1/0=1").of(3, 3), 1);
    due("its sum is broken", asked("costs 1/0").of(3, 3), 1);
    due("its sum is broken, its if is so", asked("costs 1/0 if 1=1").of(3, 3), 1);
    due("both broken", asked("takes 1%0 if 1/0=1").asks(3, 2, 3), 21);
    due("beyond", asked("costs 1000*1000*1000+1").of(3, 3), 1);
    due("just not beyond", asked("costs 1000*1000*1000").of(3, 3), 9);
    due("fits, broken", asked("fits if 1/0=1").asks(3, 2, 1), 0);
    due("bars, broken", asked("bars if 1/0=1").asks(3, 2, 2), 0);
    due("fits, one of two", asked("fits if 1/0=1;fits;fits if 1=2").asks(3, 2, 1), 1);
    due("bars, one of two", asked("bars if 1/0=1;bars;bars if 1=2").asks(3, 2, 2), 1);
  }

  @Says(in = "II", value = "It TAKES as many minutes as the last \"takes\" that HOLDS tells, 1 .. 60 (else the nearest)")
  static void takes() {
    Object[][] due = {{"1", 1}, {"2", 2}, {"59", 59}, {"60", 60}, {"61", 60}, {"1000", 60}, {"1000*1000*1000", 60}, {"0", 1}, {"0-1", 1},
        {"0-1000*1000*1000", 1}};
    for (Object[] t : due) due("takes " + t[0], asked("takes " + t[0]).asks(3, 2, 3), (Integer) t[1]);
    due("the last", asked("takes 5;takes 6;takes 7").asks(3, 2, 3), 7);
    due("the last that holds", asked("takes 5;takes 6;takes 7 if 1=2;takes 8 if 1/0=1;takes 1/0").asks(3, 2, 3), 6);
    due("the first", asked("takes 5;costs 6;fits;bars").asks(3, 2, 3), 5);
  }

  @Says(in = "II", value = "without 1 and 20 by SPEED, cut")
  static void takesWithout() {
    int[] due = {21, 11, 7, 6, 5, 4, 3, 3, 3};
    for (int speed = 1; speed <= 9; speed++) {
      TicketHall x = held(1);
      x.desk(1, speed);
      due("at speed " + speed, x.asks(0, 0, 3), due[speed - 1]);
      force(x, "takes 1/0; takes 50 if 1=2; costs 3");
      due("none holds, at speed " + speed, x.asks(0, 0, 3), due[speed - 1]);
    }
  }

  @Says(in = "II", value = "a minute of waiting COSTS 0 .. 9, 1 without")
  static void costs() {
    Object[][] due = {{"0", 0}, {"1", 1}, {"9", 9}, {"10", 9}, {"1000*1000*1000", 9}, {"0-1", 0}, {"0-1000*1000*1000", 0}};
    for (Object[] t : due) due("costs " + t[0], asked("costs " + t[0]).of(3, 3), (Integer) t[1]);
    due("the last that holds", asked("costs 5;costs 6;costs 7 if 1=2;costs 1/0").of(3, 3), 6);
    due("without a law", asked("").of(3, 3), 1);
    due("without a clause", asked("takes 5;fits;bars").of(3, 3), 1);
    due("none holds", asked("costs 5 if 1=2").of(3, 3), 1);
  }

  @Says(in = "II", value = "a TICKET is FIT, if \"fits\" HOLDS, or if its KIND is the BUSINESS")
  static void fit() {
    for (int business = 0; business <= 4; business++) {
      for (int kind = 0; kind <= 4; kind++) {
        TicketHall x = new TicketHall();
        x.person(business, 0);
        x.ticket(1, kind);
        due("business " + business + ", kind " + kind, x.asks(0, 0, 1), business == kind ? 1 : 0);
        law(x, "fits if 1=2");
        law(x, "fits if kind = 4");
        x.force(0);
        due("a law that does not say so", x.asks(0, 0, 1), business == kind ? 1 : 0);
        x.force(1);
        due("a law that says so of kind 4", x.asks(0, 0, 1), business == kind || kind == 4 ? 1 : 0);
      }
    }
  }

  @Says(in = "II", value = "a PERSON is BARRED from a TICKET, if \"bars\" HOLDS.")
  static void barred() {
    TicketHall x = asked("bars if person = 3 and ticket = 2");
    due("barred", x.asks(3, 2, 2), 1);
    due("not from another", x.asks(3, 1, 2), 0);
    due("nor another one", x.asks(2, 2, 2), 0);
    x.force(-1);
    due("without a law", x.asks(3, 2, 2), 0);
    x.draw(2, 3);
    x.force(0);
    due("even from its own", x.asks(3, 2, 2), 1);
    due("which it holds still", x.of(3, 2), 2);
  }
}
