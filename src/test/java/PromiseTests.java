/** For each promise of the document: ordinary inputs, the edges it names, and wrong inputs. */
public final class PromiseTests extends Halls {
  private static void due(int promise, String what, long got, long want) {
    topic = "promise " + promise;
    due(what, got, want);
  }

  private static void newObject() {
    TicketHall x = new TicketHall();
    int[] counts = {0, 0, 0, 0, 0, 0, 0, 0, 0, 0, 0, 0, 0, -1, 0, 9, 0, -1};
    for (int what = 0; what < counts.length; what++) due(1, "count(" + what + ")", x.count(what), counts[what]);
    due(1, "status", x.status(), 0);
    due(1, "fault", x.fault(), -1);
    due(1, "stopped", x.stopped(), -1);
    due(1, "scraps", x.scraps(), 0);
    due(1, "drawn", x.drawn(0), -1);
    due(1, "of", x.of(0, 0), -1);
    due(1, "waiting of all", x.waiting(-1), 0);
    due(1, "NONE", TicketHall.NONE, -1);
  }

  private static void person() {
    TicketHall x = new TicketHall();
    due(2, "below business", x.person(-1, 0), -1);
    due(2, "above business", x.person(5, 0), -1);
    due(2, "below patience", x.person(0, -1), -1);
    due(2, "above patience", x.person(0, 100), -1);
    for (int i = 0; i < 6; i++) due(2, "the number", x.person(i % 5, i == 5 ? 99 : 0), i);
    due(2, "no room", x.person(0, 0), -5);
    due(2, "a bad number ahead of no room", x.person(7, 0), -1);
    due(2, "count", x.count(0), 6);
  }

  private static void of() {
    TicketHall x = held(2);
    x.person(3, 42);
    due(3, "business", x.of(2, 0), 3);
    due(3, "patience", x.of(2, 1), 42);
    due(3, "holds none", x.of(2, 2), -1);
    due(3, "holds", x.of(1, 2), 1);
    due(3, "cost without a law", x.of(2, 3), 1);
    due(3, "no such what", x.of(2, 4), -1);
    due(3, "what below", x.of(2, -1), -1);
    due(3, "no such person", x.of(3, 0), -1);
    due(3, "person below", x.of(-1, 0), -1);
    force(x, "costs patience / 10");
    due(3, "cost", x.of(2, 3), 4);
    force(x, "costs patience");
    due(3, "cost, the nearest below", x.of(2, 3), 9);
    force(x, "costs 0 - patience");
    due(3, "cost, the nearest above", x.of(2, 3), 0);
    force(x, "costs 3; costs 5 if person = 0; costs 1 / 0");
    due(3, "the last that holds", x.of(0, 3), 5);
    due(3, "the last that holds, another", x.of(1, 3), 3);
    force(x, "costs 4 if ticket = 0 - 1 and number = 0 - 1 and kind = 0 - 1 and speed = 0 - 1");
    due(3, "costs is asked of a person alone", x.of(1, 3), 4);
  }

  private static void ticket() {
    TicketHall x = new TicketHall();
    due(4, "number below", x.ticket(0, 0), -1);
    due(4, "number above", x.ticket(100, 0), -1);
    due(4, "kind below", x.ticket(1, -1), -1);
    due(4, "kind above", x.ticket(1, 5), -1);
    due(4, "first", x.ticket(99, 4), 0);
    due(4, "there", x.ticket(99, 0), -3);
    for (int i = 1; i < 8; i++) due(4, "its number here", x.ticket(i, 0), i);
    due(4, "no room", x.ticket(50, 0), -5);
    due(4, "there ahead of no room", x.ticket(99, 0), -3);
    due(4, "a bad number ahead of all", x.ticket(99, 9), -1);
  }

  private static void at() {
    TicketHall x = held(2);
    x.ticket(44, 3);
    due(5, "number", x.at(2, 0), 44);
    due(5, "kind", x.at(2, 1), 3);
    due(5, "nobody's", x.at(2, 2), -1);
    due(5, "one's", x.at(1, 2), 1);
    due(5, "no such ticket", x.at(3, 0), -1);
    due(5, "ticket below", x.at(-1, 0), -1);
    due(5, "no such what", x.at(0, 3), -1);
  }

  private static void wish() {
    TicketHall x = held(2);
    due(6, "was", x.wish(1, 0, 9), 0);
    due(6, "was then", x.wish(1, 0, 3), 9);
    due(6, "another's", x.wish(0, 1, 4), 0);
    due(6, "below", x.wish(0, 0, -1), -1);
    due(6, "above", x.wish(0, 0, 10), -1);
    due(6, "a bad number ahead", x.wish(9, 9, 10), -1);
    due(6, "no such person", x.wish(2, 0, 1), -2);
    due(6, "no such ticket", x.wish(0, 2, 1), -2);
    due(6, "kept", x.asks(1, 0, 0), 3);
    due(6, "can still be undone", x.count(6), 2);
  }

  private static void desk() {
    TicketHall x = new TicketHall();
    due(7, "opens below", x.desk(-1, 1), -1);
    due(7, "opens above", x.desk(32, 1), -1);
    due(7, "speed below", x.desk(1, 0), -1);
    due(7, "speed above", x.desk(1, 10), -1);
    due(7, "first", x.desk(0, 1), 0);
    due(7, "second", x.desk(31, 9), 1);
    due(7, "third", x.desk(4, 4), 2);
    due(7, "no room", x.desk(4, 4), -5);
    due(7, "a bad number ahead of no room", x.desk(4, 0), -1);
  }

  private static void asks() {
    TicketHall x = held(3);
    x.ticket(60, 2);
    x.desk(31, 1);
    x.desk(31, 7);
    due(8, "wish", x.asks(0, 1, 0), 0);
    due(8, "fit by kind", x.asks(0, 1, 1), 1);
    due(8, "not fit", x.asks(0, 3, 1), 0);
    due(8, "not barred", x.asks(0, 3, 2), 0);
    due(8, "without a law at speed 1", x.asks(0, 3, 3), 21);
    due(8, "without a law at speed 7", x.asks(0, 3, 4), 3);
    due(8, "no such desk", x.asks(0, 3, 5), -1);
    due(8, "what below", x.asks(0, 0, -1), -1);
    due(8, "what far above", x.asks(0, 0, Integer.MAX_VALUE), -1);
    due(8, "what far below", x.asks(0, 0, Integer.MIN_VALUE), -1);
    due(8, "no such person", x.asks(3, 0, 0), -1);
    due(8, "no such ticket", x.asks(0, 4, 0), -1);
    force(x, "takes number * 10 + speed; takes 7 if ticket = 0; fits if kind = 2 and speed = 0 - 1; bars if person = ticket");
    due(8, "takes", x.asks(0, 1, 4), 27);
    due(8, "takes, the last", x.asks(0, 0, 4), 7);
    due(8, "takes, the nearest below", x.asks(0, 3, 3), 60);
    due(8, "fits by the law", x.asks(0, 3, 1), 1);
    due(8, "fits by kind beside the law", x.asks(0, 1, 1), 1);
    due(8, "barred from its own", x.asks(1, 1, 2), 1);
    due(8, "not barred from another", x.asks(1, 0, 2), 0);
    force(x, "takes 9 if kind = 0 and number = 1 and ticket = 0");
    due(8, "kind and number of ticket 0", x.asks(2, 0, 3), 9);
    force(x, "takes 0 - 5");
    due(8, "takes, the nearest above", x.asks(0, 0, 3), 1);
    force(x, "takes 5; takes 1 / 0; takes 3 if 1 / 0 = 0");
    due(8, "broken ones do not hold", x.asks(0, 0, 3), 5);
    force(x, "takes 1 % 0; fits if 1 / 0 = 1; bars if 1 % 0 = 0");
    due(8, "all takes broken", x.asks(0, 0, 3), 21);
    due(8, "broken fits", x.asks(0, 3, 1), 0);
    due(8, "broken bars", x.asks(0, 0, 2), 0);
  }

  private static void terms() {
    TicketHall x = new TicketHall();
    due(9, "minute", x.terms(0, 999), 0);
    due(9, "minute was", x.terms(0, 5), 999);
    due(9, "comes", x.terms(1, 10), 9);
    due(9, "mood", x.terms(2, 9), 0);
    due(9, "no such term", x.terms(3, 0), -1);
    due(9, "term below", x.terms(-1, 0), -1);
    due(9, "minute above", x.terms(0, 1000), -1);
    due(9, "comes above", x.terms(1, 11), -1);
    due(9, "mood above", x.terms(2, 10), -1);
    due(9, "below", x.terms(2, -1), -1);
    due(9, "kept 0", x.count(14), 5);
    due(9, "kept 1", x.count(15), 10);
    due(9, "kept 2", x.count(16), 9);
  }

  private static void tape() {
    TicketHall x = new TicketHall();
    for (int i = 1; i <= 20; i++) due(10, "how many", x.feed(0x20202020, 0x20202020, -1, 0, 0x20202020), 20 * i);
    due(10, "no more than 400", x.feed(0, 0, 0, 0, 0), -1);
    due(10, "count", x.count(7), 400);
    due(11, "401", x.end(401), -1);
    due(11, "below", x.end(-1), -1);
    due(11, "as it is", x.end(400), 400);
    due(11, "fewer", x.end(381), 381);
    due(10, "not when some fit", x.feed(0, 0, 0, 0, 0), -1);
    due(11, "not more again", x.end(382), -1);
    due(11, "less", x.end(380), 380);
    due(10, "just 400", x.feed(0, 0, 0, 0, 0), 400);
    due(11, "none", x.end(0), 0);
    x.feed(0x0A010B02, 0x0C03FF00, 0, 0, 0);
    due(11, "first ones alone", x.end(6), 6);
    due(10, "the highest first", x.row(), 3);
    due(10, "number", x.at(0, 0), 10);
    due(10, "kind", x.at(1, 1), 2);
    due(10, "third", x.at(2, 0), 12);
    due(10, "status is not of feed", x.status(), 0);
  }

  private static void row() {
    TicketHall x = new TicketHall();
    due(12, "empty", x.row(), -6);
    due(13, "ahead of any", x.scraps(), 0);
    x.person(0, 0);
    x.ticket(7, 1);
    x.draw(0, 0);
    bytes(x, 1, 0, 1, 1, 7, 0, 100, 0, 5, 5, 99, 4, 8);
    due(12, "came", x.row(), 2);
    due(13, "scraps", x.scraps(), 5);
    due(12, "tape is empty then", x.count(7), 0);
    due(12, "nothing can be undone", x.count(6), 0);
    due(12, "tickets", x.count(1), 3);
    due(12, "number", x.at(2, 0), 99);
    bytes(x, 11, 0, 12, 0, 13, 0, 14, 0, 15, 0, 16, 0, 17, 0);
    due(12, "as many as there is room for", x.row(), 5);
    due(13, "no room is a scrap", x.scraps(), 2);
    due(12, "refused", x.row(), -6);
    due(13, "of the latest that was not refused", x.scraps(), 2);
    x.draw(1, 0);
    x.drop(0);
    bytes(x, 1);
    due(12, "one byte", x.row(), 0);
    due(13, "one byte", x.scraps(), 1);
    due(12, "not refused, so nothing can be undone", x.undo(), -3);
  }

  private static void law() {
    TicketHall x = new TicketHall();
    due(14, "empty", x.law(), -6);
    due(16, "empty: at the end", x.fault(), 0);
    due(14, "blanks", law(x, "    "), -6);
    due(16, "blanks: at the end", x.fault(), 4);
    due(14, "first", law(x, "takes 1"), 0);
    due(14, "the tape is empty then", x.count(7), 0);
    due(16, "without", x.fault(), -1);
    due(14, "bad", law(x, "takes 1 ;"), -6);
    due(14, "empty behind a bad one", x.count(7), 0);
    due(16, "end", x.fault(), 9);
    for (int i = 1; i < 6; i++) due(14, "number", law(x, "  fits"), i);
    law(x, "x");
    due(14, "no room ahead of reading", x.status(), -5);
    due(14, "no room: empty", x.count(7), 0);
    due(16, "not read: as it was", x.fault(), -1);
    due(14, "laws", x.count(5), 6);
    due(14, "none is in force by that", x.count(13), -1);
  }

  private static void grammar() {
    String[] good = {"takes 1", "costs mood", "fits", "bars", "fits if 1 = 1", "takes person+business-patience*ticket/number%kind if speed < minute",
        "takes [1]", "takes [[1]*[2]]", "fits if (1=1)", "fits if not not (1<2 and 2>1) or 3=3", "takes1", "takes 1000", "takes 0001000",
        "takes 1;fits;bars;costs 2 if kind=1;takes 1;fits;bars;costs 2;takes 1;fits;bars;costs 2", " fits  ; bars ",
        "fits if((((((((1=1))))))))", "takes [[[[[[[[1]]]]]]]]", "fits if [1]+[2] = [3] and (4=4) and (5=5)"};
    for (String t : good) due(16, "'" + t + "'", faultOfLaw(t), -1);
    Object[][] bad = {{"take 1", 0}, {"takes", 5}, {"takes ", 6}, {"takes if", 6}, {"takes 1 2", 8}, {"takes 1001", 6}, {"takes 99999999999999999999", 6},
        {"takes -1", 6}, {"takes 1 +", 9}, {"takes 1 + *", 10}, {"takes (1)", 6}, {"takes [1", 8}, {"takes [1)", 8}, {"takes []", 7}, {"takes done", 6},
        {"takes has 1", 6}, {"fits 1", 5}, {"bars;", 5}, {";bars", 0}, {"bars;;bars", 5}, {"fits if", 7}, {"fits if 1", 9}, {"fits if 1 = ", 12},
        {"fits if 1 = 1 = 1", 14}, {"fits if (1) = 1", 10}, {"fits if ([(1", 10}, {"fits if 1 < 2 or", 16}, {"fits if not", 11}, {"fits if 1 = 1)", 13},
        {"fits if (1 = 1", 14}, {"fits if (1 = 1]", 14}, {"fits if 1 & 1", 10}, {"Fits", 0}, {"fits\n", 4}, {"fitsif 1=1", 0}, {"fits ifx", 5},
        {"takes 1 times 2", 8}, {"takes 1 if 1=1 if 2=2", 15}, {"fits if (((((((((1=1)))))))))", 16}, {"takes [[[[[[[[[1]]]]]]]]]", 14},
        {"fits if (([[(((((1=1)", 12}, {"fits if ((((([[[[1]]]]=1)))))", 16}, {"takes number2", 12}, {"takes 2number", 7}, {"\u00e9", 0}, {"takes \u0000", 6},
        {"pass", 0}, {"takes 1 by 2", 8}, {"takes 1.5", 7}};
    for (Object[] t : bad) due(16, "'" + t[0] + "'", faultOfLaw((String) t[0]), (Integer) t[1]);
    String twelve = "fits;fits;fits;fits;fits;fits;fits;fits;fits;fits;fits;fits";
    due(16, "twelve clauses", faultOfLaw(twelve), -1);
    due(16, "the thirteenth's first token", faultOfLaw(twelve + ";  fits"), 62);
    due(16, "a thirteenth that is the end", faultOfLaw(twelve + "; "), 61);
    String fifty = "takes 1" + "+1".repeat(48);
    due(16, "fifty parts", faultOfLaw(fifty + "+kind"), -1);
    due(16, "the fifty-first, a number", faultOfLaw(fifty + "+1+1"), 106);
    due(16, "the fifty-first, a word", faultOfLaw(fifty + "+1;costs [mood]"), 113);
    due(16, "the fifty-first in a test", faultOfLaw(fifty + "+1 if not 1=1"), 113);
    due(16, "a hundred words not", faultOfLaw("bars if" + " not".repeat(95) + " 1=2"), -1);
  }

  private static void orderGrammar() {
    String[] good = {"pass", "pass times 1", "pass times 20 if 1=2", "drop 0 if 1=2", "draw 1 by 2 if 1=2", "swap has 0 with patience 5 times 3 if 1=2",
        "draw minute+done by latest*[fit-free] if 1=2", "pass if has 5=1;pass if patience 0=2", "pass times 020 if 1=2"};
    for (String t : good) due(16, "'" + t + "'", faultOfOrders(t), -1);
    Object[][] bad = {{"passes", 0}, {"pass 1", 5}, {"pass times", 10}, {"pass times 0", 11}, {"pass times 21", 11}, {"pass times if", 11},
        {"pass if 1=1 times 2", 12}, {"pass times 2 times 2", 13}, {"draw 1", 6}, {"draw 1 with 2", 7}, {"swap 1 by 2", 7}, {"draw by 2", 5},
        {"drop has", 8}, {"drop has 6", 9}, {"drop has [1]", 9}, {"drop patience", 13}, {"drop person", 5}, {"drop kind", 5}, {"drop fit 2", 9},
        {"draw 1 by 2 by 3", 12}, {"takes 1", 0}, {"drop 1001", 5}, {"pass;", 5}, {"   ", 3}, {"drop patience 99999999999", 14}};
    for (Object[] t : bad) due(16, "'" + t[0] + "'", faultOfOrders((String) t[0]), (Integer) t[1]);
    String fifty = "drop has 5" + "+1".repeat(48);
    due(16, "neither P nor times is a part", faultOfOrders(fifty + "+free times 20"), -1);
    due(16, "the fifty-first, has", faultOfOrders(fifty + "+1+has 9"), 109);
  }

  private static void tests() {
    String[] so = {"1 = 1", "1 < 2", "2 > 1", "not 1 = 2", "not not 1 = 1", "1 = 2 or 1 = 1", "1 = 1 or 1 / 0 = 1", "not (1 = 2 and 1 / 0 = 1)",
        "1 = 1 or 1 = 2 and 1 = 2", "not 1 = 2 and 1 = 1", "2 + 3 * 4 = 14", "[2 + 3] * 4 = 20", "10 - 3 - 2 = 5", "100 / 10 / 5 = 2",
        "[0 - 7] / 2 = 0 - 3", "[0 - 7] % 2 = 0 - 1", "7 % [0 - 2] = 1", "1000 * 1000 * 1000 > 1", "0 - 1000 * 1000 * 1000 < 0",
        "person = 3", "business = 3", "patience = 35", "ticket = 2", "number = 30", "kind = 1", "speed = 0 - 1", "minute = 77", "mood = 6",
        "7 - 2 * 3 % 4 = 5", "1 = 2 and 1 / 0 = 1 or 2 = 2", "1=1 and 2=2 or 1/0=1"};
    for (String t : so) due(8, "'" + t + "' is so", isSo(t), 1);
    String[] notSo = {"1 = 2", "not 1 = 1", "1 = 1 and 1 = 2", "1 / 0 = 1", "not 1 / 0 = 1", "1 % 0 = 0", "1 / 0 = 1 or 1 = 1", "1 = 1 and 1 / 0 = 1",
        "1 = 2 or 1 / 0 = 1", "not (1 = 1 and 1 / 0 = 1)", "1000 * 1000 * 1000 + 1 > 1", "0 - 1000 * 1000 * 1000 - 1 < 0",
        "1000 * 1000 * 1000 * 2 / 2 > 1", "1000 * 1000 * 1000 + 1 - 1 > 1", "1000*1000*1000*[1000*1000*1000] > 1", "(1 = 1 or 1 = 1) and 1 = 2",
        "not 1 = 1 and 1 = 1", "not (1 = 2) and not 1 = 1 or 1 = 2"};
    for (String t : notSo) due(8, "'" + t + "' is not so", isSo(t), 0);
  }

  private static void orders() {
    TicketHall x = held(3);
    x.drop(2);
    x.ticket(50, 1);
    due(15, "none run", orders(x, "pass if 1 = 2"), 0);
    due(15, "broken if: not run", orders(x, "pass if 1 / 0 = 1;pass"), 1);
    due(15, "minute", x.count(14), 1);
    due(15, "times", orders(x, "pass times 20"), 20);
    due(15, "its if is asked each time", orders(x, "pass times 20 if minute < 25"), 4);
    due(15, "done", orders(x, "pass times 5 if done < 3;pass if done = 3"), 4);
    due(15, "sixteen are kept", x.count(6), 16);
    due(15, "latest without a draw", orders(x, "pass if latest = 0 - 1"), 1);
    due(15, "latest is the number", orders(x, "draw 3 by 2;pass if latest = 50;drop 2;pass if latest = 50"), 4);
    due(15, "free", orders(x, "pass if free = 2"), 1);
    due(15, "fit", orders(x, "pass if fit = 2;draw 3 by 2;pass if fit = 2"), 3);
    due(15, "has", orders(x, "pass if has 0 = 0;pass if has 2 = 3;pass if has 5 = 0 - 1"), 3);
    due(15, "patience", orders(x, "pass if patience 1 = 11;pass if patience 3 = 0 - 1"), 2);
    due(15, "swap", orders(x, "swap 0 with 2"), 1);
    due(15, "swapped", x.of(0, 2), 3);
    due(15, "the tape is empty then", x.count(7), 0);
    due(17, "none", x.stopped(), -1);
    int minute = x.count(14);
    String[] cannot = {"pass;drop 9", "pass;swap 0 with 0", "pass;draw 0 by 0", "pass;drop 1 / 0", "pass times 20;drop 0 - 1", "pass;drop 0 times 2",
        "pass times 17;drop 2;drop 2", "pass;draw 1000 * 1000 * 1000 by 0", "pass;draw 1 / 0 by 0", "pass;draw 0 by 1 / 0"};
    for (String t : cannot) {
      int at = t.indexOf("drop 2;") > 0 ? 2 : 1;
      due(15, "'" + t + "'", orders(x, t), -3);
      due(17, "'" + t + "'", x.stopped(), at);
      due(15, "'" + t + "': minute", x.count(14), minute);
      due(15, "'" + t + "': ticket", x.of(2, 2), 0);
      due(15, "'" + t + "': what can be undone", x.count(6), 16);
    }
    due(15, "undone as ahead of those", x.undo(), 1);
    due(15, "undone then", x.undo(), 3);
    due(15, "status", x.status(), 0);
    due(17, "a fault: none", orders(x, "pass;x") == -6 ? x.stopped() : -9, -1);
    x.terms(0, 998);
    due(15, "to the last minute", orders(x, "pass"), 1);
    due(15, "not behind it", orders(x, "pass"), -3);
    force(x, "bars if minute > 100 and person = 2 and ticket = 1");
    x.terms(0, 100);
    x.drop(2);
    x.drop(1);
    due(15, "a law is asked as things are then", orders(x, "draw 1 by 2;drop 2;pass;draw 1 by 2"), -3);
    due(17, "the fourth", x.stopped(), 3);
    due(15, "refused by the law alone then", orders(x, "draw 1 by 2;drop 2;pass"), 3);
  }

  private static void fault() {
    TicketHall x = new TicketHall();
    law(x, "takes x");
    due(16, "law", x.fault(), 6);
    orders(x, "pass if 1");
    due(16, "orders", x.fault(), 9);
    orders(x, "drop 0");
    due(16, "orders that could be read", x.fault(), -1);
  }

  private static void force() {
    TicketHall x = new TicketHall();
    due(18, "none", x.force(-1), -1);
    due(18, "no such law", x.force(0), -2);
    due(18, "below", x.force(-2), -2);
    law(x, "costs 5");
    law(x, "costs 6");
    x.person(0, 0);
    x.pass();
    due(18, "was none", x.force(1), -1);
    due(18, "in force", x.of(0, 3), 6);
    due(18, "was", x.force(0), 1);
    due(18, "in force then", x.of(0, 3), 5);
    due(18, "count", x.count(13), 0);
    due(18, "none again", x.force(-1), 0);
    due(18, "none is in force", x.of(0, 3), 1);
    due(18, "no such one", x.force(2), -2);
    due(18, "what can be undone stays", x.count(6), 1);
  }

  private static void drawSwapDrop() {
    TicketHall x = held(2);
    x.ticket(70, 3);
    x.person(1, 1);
    due(19, "its number", x.draw(2, 2), 70);
    due(19, "has one", x.draw(2, 2), -3);
    due(21, "drop", x.drop(2), 2);
    due(21, "none", x.drop(2), -3);
    due(21, "no such person", x.drop(3), -2);
    due(21, "below", x.drop(-1), -2);
    due(19, "another's", x.draw(1, 2), -3);
    due(19, "no such ticket", x.draw(3, 2), -2);
    due(19, "ticket below", x.draw(-1, 2), -2);
    due(19, "no such person", x.draw(2, 3), -2);
    due(19, "no such person ahead of what stands", x.draw(1, 3), -2);
    due(20, "the first one's then", x.swap(0, 1), 1);
    due(20, "the other's", x.of(1, 2), 0);
    due(20, "holder", x.at(0, 2), 1);
    due(20, "with itself", x.swap(0, 0), -3);
    due(20, "one who holds none", x.swap(0, 2), -3);
    due(20, "none with one", x.swap(2, 0), -3);
    due(20, "no such person", x.swap(0, 3), -2);
    due(20, "none such with itself", x.swap(3, 3), -2);
    force(x, "bars if person = 0 and ticket = 0; bars if person = 2 and number > 50");
    due(20, "the first is barred", x.swap(0, 1), -3);
    due(20, "the second is barred", x.swap(1, 0), -3);
    due(19, "barred", x.draw(2, 2), -3);
    due(21, "dropped though", x.drop(0), 1);
    due(19, "not barred from that", x.draw(1, 2), 2);
    due(22, "minute", x.pass(), 1);
    x.terms(0, 998);
    due(22, "the last", x.pass(), 999);
    due(22, "no more", x.pass(), -3);
  }

  private static void undo() {
    TicketHall x = held(2);
    due(23, "draw", x.undo(), 0);
    due(23, "nobody's", x.at(1, 2), -1);
    x.draw(1, 1);
    x.swap(0, 1);
    x.drop(0);
    x.pass();
    x.draw(9, 9);
    due(23, "pass", x.undo(), 3);
    due(23, "the minute", x.count(14), 0);
    due(23, "drop", x.undo(), 2);
    due(23, "held again", x.of(0, 2), 1);
    due(23, "swap", x.undo(), 1);
    due(23, "as ahead of it", x.of(0, 2), 0);
    due(23, "left", x.count(6), 2);
    x.undo();
    x.undo();
    due(23, "none", x.undo(), -3);
    for (int i = 0; i < 20; i++) x.pass();
    due(23, "sixteen are kept", x.count(6), 16);
    for (int i = 0; i < 16; i++) due(23, "kept", x.undo(), 3);
    due(23, "no seventeenth", x.undo(), -3);
    due(23, "minute", x.count(14), 4);
    int[] acts = new int[20];
    for (int i = 0; i < 20; i++) {
      acts[i] = i % 3 == 0 ? 0 : i % 3 == 1 ? 3 : 2;
      if (acts[i] == 0) x.draw(i % 2, 1);
      else if (acts[i] == 3) x.pass();
      else x.drop(1);
    }
    for (int i = 19; i > 3; i--) due(23, "the latest sixteen, the latest first", x.undo(), acts[i]);
    due(23, "as ahead of them", x.of(1, 2), 1);
    x.drop(1);
    x.undo();
    x.drop(1);
    x.terms(0, 4);
    x.draw(0, 0);
    x.wish(0, 0, 1);
    x.desk(1, 1);
    law(x, "bars");
    x.force(0);
    x.told(0, 1);
    x.forget();
    x.image(0);
    x.days(1, 1);
    x.person(9, 9);
    x.ticket(1, 0);
    x.terms(5, 5);
    x.row();
    due(23, "none of these is in the way", x.count(6), 1);
    due(23, "a law is not asked", x.undo(), 0);
    x.force(-1);
    x.draw(0, 0);
    x.person(0, 0);
    due(23, "person", x.undo(), -3);
    x.pass();
    x.ticket(33, 0);
    due(23, "ticket", x.undo(), -3);
    x.pass();
    x.terms(1, 9);
    due(23, "terms", x.undo(), -3);
    x.pass();
    bytes(x, 0);
    x.row();
    due(23, "row", x.undo(), -3);
    x.pass();
    x.back(0);
    due(23, "back", x.undo(), -3);
  }

  private static void day() {
    TicketHall x = busy();
    // 10 at desk 0: 0 .. 6; 20 at desk 0: 6 .. 12; 30 at desk 1: 0 .. 11; 40 at desk 1: 11 .. 22; 50 nowhere.
    int[][] due = {{0, 11, 1}, {0, 6, 0}, {6, 12, 0}, {11, 22, 1}, {-1, -1, -1}};
    for (int p = 0; p < 5; p++)
      for (int what = 0; what < 3; what++) due(24, "person " + p + " " + what, x.day(p, what), due[p][what]);
    due(24, "no such what", x.day(0, 3), -1);
    due(24, "what below", x.day(0, -1), -1);
    due(24, "no such person", x.day(5, 0), -1);
    x.drop(1);
    due(24, "holds none", x.day(1, 0), -1);
    due(24, "without that one", x.day(2, 0), 0);
    TicketHall y = held(3);
    y.desk(1, 9);
    y.desk(1, 9);
    due(24, "the lowest of alike ones", y.day(0, 2), 0);
    due(24, "the other then", y.day(1, 2), 1);
    due(24, "the lowest of alike ones later", y.day(2, 2), 0);
    due(24, "begun when that is free", y.day(2, 0), 3);
    force(y, "takes 10 + person if speed = 9 and ticket = person; takes minute if minute > 0");
    due(24, "as long as told", y.day(2, 1), 22);
    y.pass();
    due(24, "the minute as now", y.day(2, 1), 2);
  }

  private static void waiting() {
    TicketHall x = busy();
    force(x, "costs person");
    int[] due = {0, 0, 12, 33, 1000};
    for (int p = 0; p < 5; p++) due(25, "person " + p, x.waiting(p), due[p]);
    due(25, "all", x.waiting(-1), 1045);
    x.drop(4);
    due(25, "holds none", x.waiting(4), -1);
    due(25, "all who hold one", x.waiting(-1), 45);
    due(25, "no such person", x.waiting(5), -1);
    due(25, "below", x.waiting(-2), -1);
    due(36, "by none", x.compare(-1), 17);
    due(36, "by that in force", x.compare(0), 45);
    law(x, "takes 1;costs 9");
    due(36, "by another one", x.compare(1), 18);
    due(36, "no such law", x.compare(2), -1);
    due(36, "below", x.compare(-2), -1);
    due(36, "the law in force stays", x.count(13), 0);
  }

  private static void about() {
    TicketHall x = new TicketHall();
    due(26, "empty: fit", x.about(0), 0);
    due(26, "empty: all", x.about(1), 0);
    x.person(1, 0);
    x.person(0, 0);
    x.person(2, 0);
    x.person(3, 0);
    x.ticket(9, 0);
    x.ticket(8, 1);
    x.ticket(7, 3);
    x.desk(31, 9);
    x.draw(0, 0);
    x.draw(1, 1);
    x.draw(2, 2);
    due(26, "most fit", x.about(0), 2);
    due(26, "all", x.about(1), 9);
    int[] due = {1, 0, 2, -1};
    for (int p = 0; p < 4; p++) due(26, "ticket of " + p, x.about(2 + p), due[p]);
    due(26, "no such what", x.about(6), -1);
    due(26, "below", x.about(-1), -1);
    due(26, "far below", x.about(Integer.MIN_VALUE), -1);
    due(26, "on paper", x.of(0, 2), 0);
    force(x, "costs 9 if person = 1; costs 0 if person > 1; fits");
    // All are fit: person 1, who costs most, gets number 7, then person 0 number 8.
    due(26, "fit by law", x.about(0), 3);
    due(26, "the least of all", x.about(1), 3);
    due(26, "0", x.about(2), 1);
    due(26, "1", x.about(3), 2);
    due(26, "2", x.about(4), 0);
    force(x, "costs 0; fits; bars if person = 0 and ticket = 0");
    due(26, "alike ones: the first row", x.about(2), 1);
    due(26, "alike ones: 1", x.about(3), 0);
    due(26, "alike ones: 2", x.about(4), 2);
    force(x, "bars if person = 0");
    due(26, "no such way: fit", x.about(0), -1);
    due(26, "no such way: all", x.about(1), -1);
    due(26, "no such way: ticket", x.about(2), -1);
    x.drop(0);
    due(26, "it may be again", x.about(0), 0);
    due(26, "whoever holds none", x.about(2), -1);
    due(26, "the others, 7 first for 1", x.about(3), 1);
    x.force(-1);
    x.drop(2);
    x.person(3, 0);
    x.draw(2, 4);
    due(26, "behind some who hold none", x.about(6), 2);
    due(26, "one fit", x.about(0), 1);
  }

  private static void trade() {
    TicketHall x = held(4);
    due(27, "no wishes: all point at the lowest", x.trade(-1), 4);
    due(27, "own", x.trade(3), 3);
    x.wish(0, 1, 5);
    x.wish(1, 2, 5);
    x.wish(2, 0, 5);
    x.wish(3, 0, 9);
    due(27, "a ring of three and one alone", x.trade(-1), 2);
    due(27, "0", x.trade(0), 1);
    due(27, "1", x.trade(1), 2);
    due(27, "2", x.trade(2), 0);
    due(27, "3", x.trade(3), 3);
    x.wish(0, 0, 5);
    due(27, "the lowest of alike ones", x.trade(0), 0);
    due(27, "its own too: a ring of one, one of two, one of one", x.trade(-1), 3);
    due(27, "what is left", x.trade(1), 2);
    due(27, "whoever points at one who left", x.trade(2), 1);
    due(27, "on paper", x.of(1, 2), 1);
    x.wish(0, 0, 0);
    force(x, "bars if person = 0 and ticket < 2");
    // Person 0 may take its own, 2 or 3, all alike to it: its own is the lowest.
    due(27, "barred ones aside, its own never", x.trade(0), 0);
    due(27, "rings then", x.trade(-1), 3);
    x.drop(0);
    due(27, "holds none", x.trade(0), -1);
    due(27, "no such person", x.trade(4), -1);
    due(27, "below", x.trade(-2), -1);
  }

  private static void both() {
    TicketHall x = held(3);
    due(28, "none", x.both(-1), 0);
    x.wish(0, 2, 4);
    x.wish(2, 0, 4);
    x.wish(1, 2, 3);
    x.wish(2, 1, 3);
    due(28, "how many", x.both(-1), 2);
    due(28, "first", x.both(0), 2);
    due(28, "second", x.both(1), 12);
    due(28, "no third", x.both(2), -1);
    due(28, "below", x.both(-2), -1);
    x.wish(2, 2, 3);
    due(28, "not for one as good", x.both(-1), 1);
    force(x, "bars if person = 2 and ticket = 0");
    due(28, "barred", x.both(-1), 0);
    x.force(-1);
    x.drop(0);
    due(28, "holding tickets", x.both(-1), 0);
  }

  private static void take() {
    TicketHall x = busy();
    x.person(0, 0);
    due(29, "nothing is nobody's", x.take(5), -1);
    x.ticket(99, 3);
    x.ticket(5, 4);
    due(29, "not called aside", x.take(5), 5);
    x.ticket(15, 0);
    // Number 15 goes to desk 1 at 0: done at 11; number 99 at desk 2: done at 3.
    due(29, "earliest", x.take(5), 5);
    force(x, "takes 11 if kind = 3");
    due(29, "the lowest of alike ones", x.take(5), 5);
    force(x, "takes 12 if kind = 3");
    due(29, "the earliest now", x.take(5), 7);
    force(x, "takes 12 if kind = 3; bars if number = 15");
    due(29, "barred aside", x.take(5), 5);
    due(29, "holds one", x.take(0), -1);
    due(29, "no such person", x.take(6), -1);
    due(29, "below", x.take(-1), -1);
    due(29, "on paper", x.of(5, 2), -1);
    TicketHall y = new TicketHall();
    y.person(0, 0);
    y.person(0, 0);
    y.ticket(9, 0);
    y.ticket(3, 1);
    y.ticket(5, 0);
    y.desk(1, 9);
    y.desk(2, 3);
    due(29, "ticket 0", y.take(0), 0);
    y.draw(2, 1);
    // Ticket 0 would be done behind 5, at 6; ticket 1 at the other desk at 7.
    due(29, "behind another one's", y.take(0), 0);
    force(y, "takes 4 if person = 1");
    due(29, "alike: the lowest", y.take(0), 0);
    force(y, "takes 5 if person = 1");
    due(29, "longer", y.take(0), 1);
  }

  private static void desks() {
    TicketHall x = new TicketHall();
    due(30, "nobody holds one", x.desks(0, 0), 0);
    x = busy();
    due(30, "one is not called", x.desks(999, 0), -1);
    x.drop(4);
    due(30, "how many", x.desks(999, 0), 1);
    due(30, "which", x.desks(999, 1), 1);
    due(30, "by desk 0 alone till 24", x.desks(24, 1), 1);
    due(30, "by two till 22", x.desks(23, 1), 3);
    due(30, "two", x.desks(22, 0), 2);
    due(30, "not by all", x.desks(21, 0), -1);
    due(30, "minute below", x.desks(-1, 0), -1);
    due(30, "minute above", x.desks(1000, 0), -1);
    due(30, "no such what", x.desks(999, 2), -1);
    due(30, "what below", x.desks(999, -1), -1);
    TicketHall y = held(2);
    y.desk(1, 1);
    y.desk(1, 9);
    y.desk(1, 9);
    due(30, "the lowest of alike ones", y.desks(6, 1), 2);
    due(30, "fewer first", y.desks(42, 1), 1);
    due(30, "two", y.desks(3, 1), 6);
    TicketHall z = held(3);
    z.desk(1, 1);
    z.desk(1, 9);
    // With both, one of three is at desk 0 till 21; by desk 1 alone all are done at 9.
    due(30, "more may be worse", z.desks(9, 1), 2);
  }

  private static void told() {
    TicketHall x = held(2);
    due(31, "how often", x.told(0, 999), 1);
    due(31, "above", x.told(0, 1000), -1);
    due(31, "below", x.told(0, -1), -1);
    due(31, "a bad number ahead", x.told(7, -1), -1);
    due(31, "no such person", x.told(2, 0), -2);
    for (int i = 2; i <= 6; i++) due(31, "how often", x.told(1, 0), i);
    due(31, "no room", x.told(1, 0), -5);
    due(31, "no such person ahead of no room", x.told(2, 0), -2);
    int status = x.status();
    due(32, "how often there was", x.forget(), 6);
    due(32, "nothing then", x.forget(), 0);
    due(32, "count", x.count(4), 0);
    due(32, "status stays", x.status(), status);
  }

  private static void had() {
    TicketHall x = held(3);
    x.desk(1, 4);
    due(33, "all ways", x.had(-1, 0), 6);
    int[][] rows = {{0, 1, 2}, {0, 2, 1}, {1, 0, 2}, {1, 2, 0}, {2, 0, 1}, {2, 1, 0}};
    for (int i = 0; i < 6; i++)
      for (int p = 0; p < 3; p++) due(33, "way " + i + " person " + p, x.had(i, p), rows[i][p]);
    due(33, "no seventh", x.had(6, 0), -1);
    due(33, "below", x.had(-2, 0), -1);
    due(33, "no such person", x.had(0, 3), -1);
    due(34, "nothing told: the lowest", x.ask(0), 0);
    due(34, "ways left at most", x.ask(1), 2);
    x.told(0, 12);
    due(33, "done second", x.had(-1, 9), 2);
    due(33, "first way", x.had(0, 1), 0);
    due(34, "whom it tells apart", x.ask(0), 1);
    due(34, "one left", x.ask(1), 1);
    due(34, "no such what", x.ask(2), -1);
    due(34, "what below", x.ask(-1), -1);
    x.told(1, 7);
    due(33, "just then", x.had(-1, 0), 0);
    due(33, "no way", x.had(0, 0), -1);
    due(34, "no ways", x.ask(0), -1);
    x.forget();
    x.told(2, 18);
    due(33, "forgotten", x.had(-1, 0), 2);
    force(x, "bars if person = 0 and ticket = 0");
    due(33, "a law that bars is left aside", x.had(-1, 0), 2);
    due(33, "even the ticket one is barred from", x.had(0, 0), 0);
    due(34, "ways with what is barred, too", x.ask(1), 1);
    due(26, "not left aside here", x.about(2), 1);
    force(x, "bars");
    due(33, "all are barred from all", x.had(-1, 0), 2);
    due(33, "the second", x.had(1, 0), 1);
    due(34, "there are ways", x.ask(0), 0);
    due(26, "but none here", x.about(0), -1);
    x.force(-1);
    x.person(0, 0);
    due(33, "holds none", x.had(0, 3), -1);
    x.told(3, 6);
    due(33, "one who holds none is never done", x.had(-1, 0), 0);
    TicketHall y = new TicketHall();
    due(34, "nobody holds one", y.ask(0), -1);
    due(33, "empty: one way", y.had(-1, 0), 1);
    due(34, "asked first", held(3).ask(1), 2);
    TicketHall z = held(6);
    due(33, "most ways", z.had(-1, 0), 720);
    due(33, "the last one", z.had(719, 0), 5);
    due(34, "of each ticket as many", z.ask(1), 120);
  }

  private static void few() {
    TicketHall x = new TicketHall();
    due(35, "k below", x.few(0, 5), -1);
    due(35, "k above", x.few(21, 5), -1);
    due(35, "n below", x.few(1, -1), -1);
    due(35, "n above", x.few(1, 100), -1);
    due(35, "nobody", x.few(20, 0), 1000000000000L);
    due(35, "none of three", x.few(1, 3), 1000000000L);
    due(35, "less than three of three", x.few(3, 3), 271000000000L);
    due(35, "more than there are", x.few(4, 3), 1000000000000L);
    due(35, "none of twelve", x.few(1, 12), 1);
    due(35, "none of thirteen", x.few(1, 13), 0);
    x.terms(1, 5);
    due(35, "of two", x.few(2, 2), 750000000000L);
    due(35, "none of 13, cut", x.few(1, 13), 122070312);
    due(35, "none of 14, cut again", x.few(1, 14), 61035156);
    // Of 13 people one: 12 times 244140625 / 2 cut and once 244140625 / 2 cut come together person by person.
    due(35, "one or none of 13", x.few(2, 13), 122070312L + 244140625L * 12 / 2 + 122070312L);
    x.terms(1, 0);
    due(35, "nobody comes", x.few(1, 99), 1000000000000L);
    x.terms(1, 10);
    due(35, "all come", x.few(20, 20), 0);
    due(35, "all 19 come", x.few(20, 19), 1000000000000L);
  }

  private static void days() {
    TicketHall x = new TicketHall();
    due(37, "seed below", x.days(-1, 1), -1);
    due(37, "seed above", x.days(1000001, 1), -1);
    due(37, "n below", x.days(0, 0), -1);
    due(37, "the highest seed and n can be", x.days(1000000, 60), -3);
    due(37, "n above", x.days(0, 61), -1);
    due(37, "nobody", x.days(0, 1), -3);
    x.person(0, 0);
    due(37, "no tickets", x.days(0, 1), -3);
    x = new TicketHall();
    x.ticket(1, 0);
    due(37, "no people", x.days(0, 1), -3);
    x.person(0, 0);
    // One person, one ticket: what is done hangs on the third of each three draws.
    int s = 4711, changed = 0, holds = -1;
    for (int i = 0; i < 60; i++) {
      for (int j = 0; j < 3; j++) s = (int) ((s * 1103L + 12345) % 1000003);
      if (s % 3 == 0 && holds < 0) { holds = 0; changed++; }
      else if (s % 3 == 2 && holds == 0) { holds = -1; changed++; }
    }
    due(37, "changed", x.days(4711, 60), changed);
    due(38, "behind them", x.drawn(0), holds);
    due(38, "no such person", x.drawn(1), -1);
    due(38, "below", x.drawn(-1), -1);
    due(38, "the last that could be", x.drawn(5), -1);
    due(38, "above", x.drawn(6), -1);
    due(38, "far above", x.drawn(Integer.MAX_VALUE), -1);
    due(37, "on paper: minute", x.count(14), 0);
    due(37, "on paper: ticket", x.of(0, 2), -1);
    due(37, "on paper: undo", x.count(6), 0);
    x.draw(0, 0);
    int seed = 0;
    // A seed whose third draw is 2: a drop.
    for (boolean found = false; !found; ) {
      int t = ++seed;
      for (int j = 0; j < 3; j++) t = (int) ((t * 1103L + 12345) % 1000003);
      found = t % 3 == 2;
    }
    due(37, "a drop", x.days(seed, 1), 1);
    due(38, "dropped on paper", x.drawn(0), -1);
    due(37, "held in truth", x.of(0, 2), 0);
    x.terms(0, 999);
    due(37, "at 999 it ends", x.days(seed, 60), 0);
    due(38, "as it stands", x.drawn(0), 0);
    x.days(-1, 0);
    due(38, "one that was refused is not the latest", x.drawn(0), 0);
    x.terms(0, 998);
    due(37, "at 998 once", x.days(seed, 60), 1);
    TicketHall z = new TicketHall();
    z.ticket(1, 0);
    z.image(0);
    z.person(0, 0);
    z.draw(0, 0);
    z.terms(0, 999);
    z.days(0, 1);
    z.back(0);
    due(38, "one who is there no more behind back", z.drawn(0), 0);
    z.person(1, 1);
    due(38, "nor does another one in that place change it", z.drawn(0), 0);
    TicketHall y = held(6);
    y.person(0, 0);
    int all = y.days(99, 60);
    due(37, "swaps and drops", all > 10 ? 1 : 0, 1);
    due(37, "the same again", y.days(99, 60), all);
    force(y, "bars");
    int barred = y.days(99, 60);
    due(37, "only drops can be", barred <= 6 && barred > 0 ? 1 : 0, 1);
  }

  private static void images() {
    TicketHall x = held(2);
    x.desk(31, 3);
    x.wish(0, 1, 7);
    x.told(0, 33);
    x.terms(1, 4);
    x.terms(2, 8);
    force(x, "costs 7");
    x.draw(9, 9);
    int refused = x.count(9);
    due(39, "below", x.image(-1), -1);
    due(39, "above", x.image(2), -1);
    due(40, "not kept", x.back(0), -2);
    due(40, "below", x.back(-1), -1);
    due(40, "above", x.back(2), -1);
    due(39, "kept", x.image(1), 0);
    x.person(1, 1);
    x.ticket(80, 1);
    x.drop(0);
    x.draw(2, 0);
    x.desk(1, 1);
    x.wish(0, 1, 2);
    x.wish(2, 2, 9);
    x.told(1, 5);
    x.terms(0, 100);
    x.terms(1, 1);
    force(x, "costs 2");
    x.days(5, 60);
    int drawn = x.drawn(0);
    int[] drawnAll = {x.drawn(0), x.drawn(1), x.drawn(2)};
    x.pass();
    law(x, "fits fits");
    orders(x, "pass;drop 9");
    bytes(x, 99);
    x.row();
    text(x, "abc");
    due(39, "the other one", x.image(0), 0);
    due(40, "back", x.back(1), 0);
    int[] counts = {2, 2, 2, 1, 1, 1, 0, 3};
    for (int what = 0; what < 8; what++) due(40, "count(" + what + ")", x.count(what), counts[what]);
    due(40, "force", x.count(13), 0);
    due(40, "minute", x.count(14), 0);
    due(40, "comes", x.count(15), 4);
    due(40, "mood", x.count(16), 8);
    due(40, "ticket", x.of(0, 2), 0);
    due(40, "cost", x.of(0, 3), 7);
    due(40, "wish", x.asks(0, 1, 0), 7);
    due(40, "refusals stay", x.count(9), refused + 1);
    due(40, "fault stays", x.fault(), -1);
    due(40, "where orders stopped stays", x.stopped(), 1);
    due(40, "scraps stay", x.scraps(), 1);
    due(40, "the latest days stay", x.drawn(0), drawn);
    for (int p = 0; p < 3; p++) due(38, "behind back, person " + p, x.drawn(p), drawnAll[p]);
    due(40, "a new person wishes nothing", x.person(0, 0) * 10 + x.ticket(81, 1), 22);
    due(40, "a new wish", x.asks(2, 2, 0), 0);
    law(x, "costs 5");
    x.force(1);
    due(40, "the other image", x.back(0), 0);
    due(40, "its law", x.of(0, 3), 2);
    due(40, "its minute", x.count(14), 101);
    due(40, "its ticket", x.of(0, 2), 2);
    due(40, "its wish", x.asks(2, 2, 0), 9);
    due(40, "the image stays", x.back(1), 0);
    due(40, "its ticket again", x.of(0, 2), 0);
    x.drop(0);
    due(39, "kept anew", x.image(1), 0);
    x.draw(0, 0);
    x.back(1);
    due(40, "as then", x.of(0, 2), -1);
    TicketHall y = new TicketHall();
    y.image(0);
    y.person(3, 44);
    y.ticket(55, 2);
    y.desk(4, 6);
    y.draw(0, 0);
    y.told(0, 4);
    y.image(1);
    y.back(0);
    due(40, "empty again", y.count(0) + y.count(1) + y.count(2) + y.count(3) + y.count(4), 0);
    y.person(1, 11);
    y.person(1, 12);
    y.ticket(22, 1);
    y.desk(1, 1);
    y.told(1, 999);
    y.back(1);
    due(40, "business", y.of(0, 0), 3);
    due(40, "patience", y.of(0, 1), 44);
    due(40, "number", y.at(0, 0), 55);
    due(40, "kind", y.at(0, 1), 2);
    due(40, "desk", y.day(0, 1), 4);
    due(40, "told", y.had(-1, 0), 1);
  }

  private static void countAndStatus() {
    TicketHall x = new TicketHall();
    due(41, "below", x.count(-1), -1);
    due(41, "above", x.count(17), -1);
    due(42, "ahead of any", x.status(), 0);
    x.person(0, 0);
    x.person(0, 0);
    x.ticket(1, 1);
    x.ticket(2, 1);
    x.draw(0, 0);
    due(41, "people", x.count(0), 2);
    due(41, "tickets", x.count(1), 2);
    due(41, "held", x.count(2), 1);
    x.person(9, 9);
    due(42, "-1", x.status(), -1);
    x.of(9, 9);
    x.feed(0, 0, 0, 0, 0);
    x.end(99);
    x.count(0);
    x.compare(9);
    x.forget();
    x.desks(0, 0);
    due(42, "not of these", x.status(), -1);
    x.draw(0, 9);
    due(42, "-2", x.status(), -2);
    x.draw(0, 1);
    due(42, "-3", x.status(), -3);
    x.undo();
    due(42, "0", x.status(), 0);
    for (int i = 0; i < 4; i++) x.desk(1, 1);
    due(42, "-5", x.status(), -5);
    x.law();
    due(42, "-6", x.status(), -6);
    x.row();
    x.orders();
    due(42, "row, orders", x.status(), -6);
    int[] refused = {1, 1, 1, 1, 3};
    for (int i = 0; i < 5; i++) due(41, "refused " + i, x.count(8 + i), refused[i]);
    x.image(0);
    due(42, "image", x.status(), 0);
    x.back(5);
    due(42, "back", x.status(), -1);
    x.back(0);
    due(41, "images do not keep that", x.count(8), 2);
    TicketHall y = new TicketHall();
    y.person(9, 9);
    due(42, "person 0", y.person(0, 0) + y.status(), 0);
    y.ticket(0, 0);
    due(42, "ticket 0", y.ticket(1, 0) + y.status(), 0);
    y.desk(0, 0);
    due(42, "desk 0", y.desk(0, 1) + y.status(), 0);
    y.wish(9, 9, 9);
    due(42, "wish 0", y.wish(0, 0, 0) + y.status(), 0);
    y.draw(9, 9);
    due(42, "draw", y.draw(0, 0) + y.status(), 1);
    y.drop(9);
    due(42, "drop 0", y.drop(0) + y.status(), 0);
    y.drop(9);
    due(42, "undo 2", y.undo() + y.status(), 2);
    y.drop(9);
    due(42, "undo 0", y.undo() + y.status(), 0);
    y.person(0, 0);
    y.ticket(2, 0);
    y.draw(0, 0);
    y.draw(1, 1);
    y.drop(9);
    due(42, "swap", y.swap(1, 0) + y.status(), 0);
    y.drop(9);
    due(42, "orders", orders(y, "pass if 1=2") + y.status(), 0);
    y.drop(9);
    due(42, "law 0", law(y, "fits") + y.status(), 0);
    y.drop(9);
    due(42, "force", y.force(0) + y.status(), -1);
    y.drop(9);
    due(42, "told", y.told(0, 0) + y.status(), 1);
    y.drop(9);
    due(42, "terms", y.terms(0, 0) + y.status(), 0);
    y.drop(9);
    due(42, "pass", y.pass() + y.status(), 1);
    int status = 0;
    x.days(0, 0);
    status += x.status();
    x.told(0, -1);
    status += x.status();
    x.terms(9, 0);
    status += x.status();
    x.wish(0, 0, 99);
    status += x.status();
    x.ticket(0, 0);
    status += x.status();
    due(42, "days, told, terms, wish, ticket", status, -5);
    x.force(9);
    due(42, "force", x.status(), -2);
    x.swap(9, 9);
    due(42, "swap", x.status(), -2);
    x.drop(9);
    due(42, "drop", x.status(), -2);
    x.terms(0, 999);
    x.pass();
    due(42, "pass", x.status(), -3);
    x.undo();
    due(41, "refused by -3", x.count(10), 3);
  }

  public static void main(String[] args) {
    newObject();
    person();
    of();
    ticket();
    at();
    wish();
    desk();
    asks();
    terms();
    tape();
    row();
    law();
    grammar();
    orderGrammar();
    tests();
    orders();
    fault();
    force();
    drawSwapDrop();
    undo();
    day();
    waiting();
    about();
    trade();
    both();
    take();
    desks();
    told();
    had();
    few();
    days();
    images();
    countAndStatus();
    System.out.println(wrong == 0 ? asked + " answers are as due" : wrong + " of " + asked + " answers are not as due");
    if (wrong != 0) System.exit(1);
  }
}
