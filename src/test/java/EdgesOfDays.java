/** Term IV: days by draws, rows, images. */
final class EdgesOfDays extends Halls {
  private static int next(int s) {
    return (int) ((s * 1103L + 12345) % 1000003);
  }

  /** The first three draws: of people, of tickets, of 3. */
  private static int[] draws(int seed, int people, int tickets) {
    int a = next(seed), b = next(a), c = next(b);
    return new int[] {a % people, b % tickets, c % 3};
  }

  /** The lowest seed by which the acts of one person with one ticket are as told. */
  private static int seedFor(int... acts) {
    for (int seed = 0; seed <= 1000000; seed++) {
      int s = seed;
      boolean good = true;
      for (int i = 0; i < acts.length && good; i++) {
        s = next(next(next(s)));
        good = s % 3 == acts[i];
      }
      if (good) return seed;
    }
    return -1;
  }

  private static TicketHall oneAndOne() {
    TicketHall x = new TicketHall();
    x.person(0, 0);
    x.ticket(1, 0);
    return x;
  }

  @Says(in = "IV", value = "DAYS with a SEED, n 1 .. 60, on paper")
  static void howMany() {
    range("n", 1, 60, -1, v -> oneAndOne().days(0, v));
    TicketHall x = busy();
    x.pass();
    String state = state(x);
    due("something changes", x.days(7, 60) > 0 ? 1 : 0, 1);
    alike("on paper alone", state(x), state);
  }

  @Says(in = "IV", value = "s is the SEED (0 .. 1,000,000)")
  static void seeds() {
    range("seed", 0, 1000000, -1, v -> oneAndOne().days(v, 60));
  }

  @Says(in = "IV", value = "a DRAW of m: s becomes (s times 1103 and 12345) modulo 1,000,003, it is s modulo m.")
  static void drawsWrapAround() {
    // 895 times 1103 and 12345 is the last below 1,000,003; the first draw behind the last two is 0 and 1,000,002.
    int toNothing = 0, toTheMost = 0;
    for (int s = 0; s <= 1000000; s++) {
      if (next(s) == 0) toNothing = s;
      if (next(s) == 1000002) toTheMost = s;
    }
    for (int seed : new int[] {0, 1, 895, 896, 999999, 1000000, toNothing, toTheMost}) {
      int s = seed, holds = -1, changed = 0;
      for (int n = 1; n <= 60; n++) {
        s = next(next(next(s)));
        if (s % 3 == 0 && holds < 0 || s % 3 == 2 && holds == 0) {
          holds = -1 - holds;
          changed++;
        }
        TicketHall x = oneAndOne();
        due("seed " + seed + ", " + n + " times", x.days(seed, n), changed);
        due("seed " + seed + ", " + n + " times, held", x.drawn(0), holds);
      }
    }
    // By hand: 0 becomes 12345, 628841, 621889: person 0 (of 5), ticket 1 (of 8), a swap.
    TicketHall y = busy();
    for (int t = 5; t < 8; t++) y.ticket(60 + t, 0);
    due("by hand", y.days(0, 1), 1);
    due("person 0 has ticket 1", y.drawn(0), 1);
    due("person 1 has ticket 0", y.drawn(1), 0);
    due("the others have theirs", y.drawn(2) * 100 + y.drawn(3) * 10 + y.drawn(4), 234);
  }

  @Says(in = "IV", value = "Each time (at MINUTE 999 it ends)")
  static void endsAt999() {
    int seed = seedFor(0, 2, 0);
    for (int left = 0; left <= 4; left++) {
      TicketHall x = oneAndOne();
      x.terms(0, 999 - left);
      due(left + " minutes are left", x.days(seed, 3), Math.min(left, 3));
      due("held", x.drawn(0), left == 0 || left == 2 ? -1 : 0);
      due("the minute stays", x.count(14), 999 - left);
    }
    TicketHall y = held(2);
    y.terms(0, 999);
    due("nothing changes", y.days(1, 60), 0);
    due("as it stands", y.drawn(1), 1);
    TicketHall z = oneAndOne();
    z.terms(0, 939);
    int all = z.days(seed, 60);
    z.terms(0, 0);
    due("60 minutes are enough for 60", z.days(seed, 60), all);
  }

  @Says(in = "IV", value = "DRAWS of PEOPLE, of TICKETS, of 3: at 0 that PERSON draws that TICKET, at 1 it swaps with whoever holds that, at 2 it drops its own")
  static void byDraws() {
    int[] seen = new int[6];
    for (int seed = 0; seed < 400; seed++) {
      // People 0 and 1 hold tickets 1 and 3, person 2 none; tickets 0 and 2 are nobody's.
      TicketHall x = new TicketHall();
      for (int p = 0; p < 3; p++) x.person(0, 0);
      for (int t = 0; t < 4; t++) x.ticket(9 - t, 0);
      x.draw(1, 0);
      x.draw(3, 1);
      int[] d = draws(seed, 3, 4), holds = {1, 3, -1};
      boolean can = d[2] == 0 ? d[0] == 2 && d[1] % 2 == 0 : d[2] == 1 ? d[0] == 0 && d[1] == 3 || d[0] == 1 && d[1] == 1 : d[0] < 2;
      if (can && d[2] == 0) holds[2] = d[1];
      if (can && d[2] == 1) holds = new int[] {3, 1, -1};
      if (can && d[2] == 2) holds[d[0]] = -1;
      seen[d[2] * 2 + (can ? 1 : 0)]++;
      due("seed " + seed, x.days(seed, 1), can ? 1 : 0);
      for (int p = 0; p < 3; p++) due("seed " + seed + ", person " + p, x.drawn(p), holds[p]);
    }
    for (int i = 0; i < 6; i++) due("each is seen, can be or not", seen[i] > 5 ? 1 : 0, 1);
  }

  @Says(in = "IV", value = "each if it can (not with itself)")
  static void ifItCan() {
    int swap = seedFor(1, 1, 1);
    TicketHall x = held(1);
    due("with itself", x.days(swap, 3), 0);
    due("holds it still", x.drawn(0), 0);
    due("a draw with a ticket", x.days(seedFor(0, 0), 2), 0);
    due("one drop of two", x.days(seedFor(2, 2), 2), 1);
    due("dropped", x.drawn(0), -1);
    TicketHall y = oneAndOne();
    due("a swap for what is nobody's", y.days(swap, 3), 0);
    due("none to drop", y.days(seedFor(2, 2), 2), 0);
    force(y, "bars");
    due("barred", y.days(seedFor(0, 0), 2), 0);
    due("none drawn", y.drawn(0), -1);
  }

  @Says(in = "IV", value = "then the MINUTE passes.")
  static void minutePasses() {
    int[] acts = {0, 2, 0, 2, 0};
    int seed = seedFor(acts);
    for (int minute = 0; minute < 6; minute++) {
      TicketHall x = oneAndOne();
      x.terms(0, 500);
      force(x, "bars if minute = " + (500 + minute));
      int changed = minute == 0 || minute == 2 ? 3 : minute == 4 ? 4 : 5;
      due("barred at minute " + minute, x.days(seed, 5), changed);
      due("held", x.drawn(0), minute == 4 ? -1 : 0);
    }
  }

  @Says(in = "IV", value = "A ROW: the TAPE's bytes by twos: NUMBER, KIND: a TICKET")
  static void rowsByTwos() {
    TicketHall x = new TicketHall();
    bytes(x, 1, 0, 99, 4, 50, 2);
    due("three", x.row(), 3);
    due("the first number", x.at(0, 0), 1);
    due("the first kind", x.at(0, 1), 0);
    due("the largest number", x.at(1, 0), 99);
    due("the largest kind", x.at(1, 1), 4);
    due("the third", x.at(2, 0) * 10 + x.at(2, 1), 502);
    due("nobody's", x.at(0, 2), -1);
    due("no scraps", x.scraps(), 0);
  }

  @Says(in = "IV", value = "one that can't be (a NUMBER that is there, too)")
  static void scrapsThatCannotBe() {
    int[][] cannot = {{0, 0}, {100, 0}, {1, 5}, {1, 255}, {255, 0}, {128, 0}, {0, 255}, {7, 0}, {7, 4}};
    for (int[] two : cannot) {
      TicketHall x = new TicketHall();
      x.ticket(7, 0);
      bytes(x, two);
      due(two[0] + ", " + two[1], x.row(), 0);
      due("a scrap", x.scraps(), 1);
      due("no ticket", x.count(1), 1);
    }
    TicketHall y = new TicketHall();
    bytes(y, 5, 1, 5, 2, 6, 0, 0, 0, 8, 3);
    due("there by the same row", y.row(), 3);
    due("two scraps", y.scraps(), 2);
    due("the first stays", y.at(0, 1), 1);
    due("those behind come", y.at(2, 0), 8);
  }

  @Says(in = "IV", value = "one within which the TAPE ends")
  static void scrapAtTheEnd() {
    TicketHall x = new TicketHall();
    bytes(x, 5);
    due("a single byte", x.row(), 0);
    due("is a scrap", x.scraps(), 1);
    due("off the tape", x.count(7), 0);
    bytes(x, 5, 0, 6);
    due("one and a half", x.row(), 1);
    due("the half", x.scraps(), 1);
    due("one ticket", x.count(1), 1);
    bytes(x, 5, 0, 0);
    due("a scrap and a half", x.row(), 0);
    due("both", x.scraps(), 2);
  }

  @Says(in = "IV", value = "one for which there is no room is a SCRAP: none.")
  static void scrapsWithoutRoom() {
    TicketHall x = new TicketHall();
    int[] twos = new int[400];
    for (int i = 0; i < 400; i += 2) twos[i] = i / 2 % 99 + 1;
    bytes(x, twos);
    due("a full tape", x.row(), 8);
    due("scraps", x.scraps(), 192);
    due("the eighth", x.at(7, 0), 8);
    due("no ninth", x.at(8, 0), -1);
    bytes(x, 90, 0);
    due("a full hall", x.row(), 0);
    due("one scrap", x.scraps(), 1);
    TicketHall y = new TicketHall();
    for (int t = 0; t < 7; t++) y.ticket(t + 1, 0);
    bytes(y, 0, 0, 50, 0, 51, 0);
    due("room for one", y.row(), 1);
    due("the first that can be", y.at(7, 0), 50);
    due("the others", y.scraps(), 2);
  }

  /** A hall of which everything is changed behind its first image. */
  private static TicketHall changedBehindImage() {
    TicketHall x = held(2);
    x.desk(31, 5);
    x.wish(0, 1, 7);
    x.told(1, 10);
    x.terms(1, 4);
    x.terms(2, 8);
    force(x, "costs 7");
    x.pass();
    x.image(0);
    x.pass();
    x.swap(0, 1);
    x.drop(1);
    x.person(4, 44);
    x.ticket(44, 4);
    x.wish(2, 2, 4);
    x.wish(0, 1, 2);
    x.desk(1, 1);
    x.told(0, 1);
    x.terms(0, 100);
    x.terms(1, 5);
    x.terms(2, 1);
    force(x, "costs 3; takes 9; fits; bars");
    return x;
  }

  @Says(in = "IV", value = "IMAGES 0, 1 keep all but the TAPE, FAULT, SCRAPS, where ORDERS stopped")
  static void whatImagesDoNotKeep() {
    TicketHall x = held(1);
    x.image(0);
    law(x, "takes x");
    bytes(x, 1, 1, 1, 1, 1);
    x.row();
    orders(x, "pass;pass;drop 9");
    text(x, "abcdef");
    String marks = marks(x);
    alike("six bytes, three scraps, no fault, stopped at 2", marks.substring(0, 8), "6 3 -1 2");
    x.image(1);
    alike("behind image()", marks(x), marks);
    x.back(0);
    alike("behind back()", marks(x), marks);
    law(x, "takes x");
    x.back(1);
    due("the fault stays", x.fault(), 6);
    due("the tape was read", x.count(7), 0);
  }

  @Says(in = "IV", value = "what can be undone (nothing, behind back())")
  static void nothingCanBeUndone() {
    TicketHall x = held(2);
    x.image(0);
    due("image() leaves it", x.count(6), 2);
    x.pass();
    due("three", x.count(6), 3);
    x.back(0);
    due("nothing", x.count(6), 0);
    refuses("behind back()", x, -3, h -> h.undo());
    due("held as then", x.of(1, 2), 1);
    x.drop(1);
    due("what comes behind can be", x.undo(), 2);
    refuses("that alone", x, -3, h -> h.undo());
  }

  @Says(in = "IV", value = "the latest DAYS")
  static void latestDaysStay() {
    TicketHall x = oneAndOne();
    x.image(0);
    x.days(seedFor(0), 1);
    due("drawn", x.drawn(0), 0);
    x.back(0);
    due("behind back()", x.drawn(0), 0);
    x.image(1);
    x.days(seedFor(2), 1);
    due("none drawn", x.drawn(0), -1);
    x.back(1);
    due("the latest still", x.drawn(0), -1);
    TicketHall y = new TicketHall();
    y.image(0);
    y.person(0, 0);
    y.ticket(1, 0);
    y.days(seedFor(0), 1);
    y.back(0);
    due("there is nobody now", y.count(0), 0);
    due("drawn all the same", y.drawn(0), 0);
  }

  @Says(in = "IV", value = "BACK to one all that it keeps is as it was then (IMAGES stay).")
  static void backToAnImage() {
    TicketHall x = changedBehindImage();
    x.image(1);
    String behind = state(x);
    x.back(0);
    // People, tickets, held, desks, told, laws, undo; the law in force, minute, comes, mood; then people and tickets.
    alike("as it was then", state(x), "2 2 2 1 1 1 0 0 1 4 8 | 0 10 0 5 0 7| 0 11 1 10 0 0| 1 0 0| 2 0 1");
    due("its law", x.of(0, 3), 7);
    due("what was told", x.had(-1, 0), 1);
    due("its chance", x.few(1, 1), 600000000000L);
    x.person(1, 1);
    x.ticket(11, 1);
    x.desk(2, 2);
    x.told(0, 999);
    x.wish(2, 2, 9);
    x.back(1);
    alike("the other one", state(x), behind);
    due("its desks", x.asks(0, 0, 4), 9);
    due("its people and tickets", x.of(2, 0) * 100 + x.of(2, 1) + x.at(2, 0), 488);
    due("its law", x.of(0, 3), 3);
    x.back(0);
    due("back again", x.count(0), 2);
    x.drop(0);
    x.back(0);
    due("images stay", x.of(0, 2), 0);
    x.drop(1);
    x.image(0);
    x.draw(1, 1);
    x.back(0);
    due("kept anew", x.of(1, 2), -1);
    x.back(1);
    due("the other stays", x.count(0), 3);
  }

  @Says(in = "IV", value = "all that it keeps is as it was then")
  static void backToAFullImage() {
    TicketHall x = new TicketHall();
    x.image(0);
    for (int i = 0; i < 6; i++) x.person(4, 90 + i);
    for (int i = 0; i < 8; i++) x.ticket(80 + i, 4);
    for (int i = 0; i < 3; i++) x.desk(16, 5 - i);
    for (int i = 0; i < 6; i++) law(x, "costs " + (i + 2));
    x.wish(5, 7, 9);
    x.draw(7, 5);
    x.told(5, 5);
    x.force(5);
    x.image(1);
    x.back(0);
    for (int i = 0; i < 6; i++) x.person(1, i);
    for (int i = 0; i < 8; i++) x.ticket(10 + i, 1);
    for (int i = 0; i < 3; i++) x.desk(2, 9);
    for (int i = 0; i < 6; i++) law(x, "costs 9");
    for (int i = 0; i < 6; i++) x.told(i, i);
    x.wish(5, 7, 1);
    x.back(1);
    for (int i = 0; i < 6; i++) due("person " + i, x.of(i, 0) * 100 + x.of(i, 1), 490 + i);
    for (int i = 0; i < 8; i++) due("ticket " + i, x.at(i, 0) * 10 + x.at(i, 1), 804 + 10 * i);
    int[] takes = {5, 6, 7};
    for (int d = 0; d < 3; d++) due("desk " + d, x.asks(0, 0, 3 + d), takes[d]);
    due("the desks' kinds", x.day(5, 2), 0);
    due("the last wish", x.asks(5, 7, 0), 9);
    due("the law in force", x.of(0, 3), 7);
    for (int i = 0; i < 6; i++) due("law " + i, x.force(i), i == 0 ? 5 : i - 1);
    due("the last law", x.of(0, 3), 7);
    x.force(0);
    due("the first law", x.of(0, 3), 2);
    due("told", x.had(-1, 0), 1);
    x.told(5, 6);
    due("told by another one", x.had(-1, 0), 0);
  }
}
