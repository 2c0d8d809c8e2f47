/** Term II: what both languages have in common. */
final class EdgesOfTexts extends Halls {
  private static final String THOUSAND_MILLIONS = "1000 * 1000 * 1000";

  private static void goodLaws(String... texts) {
    for (String t : texts) due("'" + t + "'", faultOfLaw(t), -1);
  }

  private static void badLaw(String text, int place) {
    due("'" + text + "'", faultOfLaw(text), place);
  }

  private static void badOrders(String text, int place) {
    due("'" + text + "'", faultOfOrders(text), place);
  }

  private static void so(String... tests) {
    for (String t : tests) due("'" + t + "' is so", isSo(t), 1);
  }

  private static void notSo(String... tests) {
    for (String t : tests) due("'" + t + "' is not so", isSo(t), 0);
  }

  /** A test is BROKEN, if neither it nor its contrary is so. */
  private static void broken(String... tests) {
    for (String t : tests) {
      due("'" + t + "' is not so", isSo(t), 0);
      due("the contrary of '" + t + "' neither", isSo("not (" + t + ")"), 0);
    }
  }

  @Says(in = "II", value = "TEXTS are on a TAPE of at most 400 bytes.")
  static void tapeOf400() {
    TicketHall x = new TicketHall();
    due("a law that ends with the tape", law(x, " ".repeat(396) + "fits"), 0);
    due("blanks to the end", law(x, "fits" + " ".repeat(396)), 1);
    due("a fault at the end", law(x, "takes" + " ".repeat(395)), -6);
    due("the end", x.fault(), 400);
    due("nothing behind the last byte", law(x, "fits" + " ".repeat(395) + ";"), -6);
    due("the end again", x.fault(), 400);
    due("as many tokens as bytes", law(x, ";".repeat(400)), -6);
    due("the first of them", x.fault(), 0);
    due("orders that end with the tape", orders(x, "pass" + " ".repeat(392) + "if 1"), -6);
    due("at the end", x.fault(), 400);
    due("as orders", orders(x, " ".repeat(396) + "pass"), 1);
    due("a part of a word at the end", law(x, " ".repeat(398) + "fi"), -6);
    due("where it begins", x.fault(), 398);
    due("the longest word", law(x, "f".repeat(400)), -6);
    due("from its first letter", x.fault(), 0);
    due("the longest number", law(x, "takes " + "0".repeat(393) + "1"), 2);
    due("the longest number that is too large", law(x, "takes " + "9".repeat(394)), -6);
    due("from its first digit", x.fault(), 6);
    for (int i = 0; i < 20; i++) x.feed(0, 0, 0, 0, 0);
    due("no more than that", x.feed(0, 0, 0, 0, 0), -1);
  }

  @Says(in = "II", value = "TOKENS: longest rows of letters a .. z")
  static void letters() {
    badLaw("fitsa", 0);
    badLaw("fitsz", 0);
    badLaw("fits`", 4);
    badLaw("fits{", 4);
    badLaw("fitsA", 4);
    badLaw("fitsZ", 4);
    badLaw("FITS", 0);
    badLaw("fit s", 0);
    badLaw("fi", 0);
    badLaw("fits ifs 1=1", 5);
    goodLaws("takes1", "takes[1]if(1=1)", "takes 1if 1=1and 2=2or 3=3", "fits if not(1=1)", "takes mood*kind");
  }

  @Says(in = "II", value = "of digits")
  static void digits() {
    badLaw("takes 1 0", 8);
    badLaw("takes 1:", 7);
    badLaw("takes 1/", 8);
    badLaw("takes 10kind", 8);
    badLaw("takes kind10", 10);
    for (int d = 0; d <= 9; d++) so("1" + d + " = 10 + " + d, d + "1 = " + d + " * 10 + 1");
  }

  @Says(in = "II", value = "single other bytes")
  static void otherBytes() {
    badLaw("fits if 1==1", 10);
    badLaw("fits if 1<>1", 10);
    badLaw("takes 1++1", 8);
    badLaw("fits;;fits", 5);
    badLaw("takes 1.5", 7);
    badLaw("takes 1,000", 7);
    badLaw("takes -1", 6);
    badLaw("takes #1", 6);
    for (int other = 0; other < 256; other++) {
      boolean goesOn = other == ';' || other == ' ';
      boolean letter = other >= 'a' && other <= 'z', digit = other >= '0' && other <= '9';
      due("byte " + other + " behind a clause", faultOfLaw("fits" + (char) other), other == ' ' ? -1 : goesOn ? 5 : letter ? 0 : 4);
      due("byte " + other + " as a part", faultOfLaw("takes 3+" + (char) other), digit ? -1 : other == ' ' || other == '[' ? 9 : 8);
      due("byte " + other + " as a clause", faultOfOrders("" + (char) other), other == ' ' ? 1 : 0);
    }
    goodLaws("takes[[1]]", "fits if((1=1))");
  }

  @Says(in = "II", value = "any blanks (32) between.")
  static void blanks() {
    goodLaws("fits;bars", "  fits  ;  bars  ", " takes   [ 1 ]  *  2  if  ( 1 < 2 ) ", "takes 1+1", "takes  1 + 1");
    for (int blank : new int[] {0, 9, 10, 13, 31, 33, 160}) badLaw("fits" + (char) blank + ";bars", 4);
    badLaw("   x", 3);
  }

  @Says(in = "II", value = "Of both languages: CLAUSE {\";\" CLAUSE}, 12 at most (FAULT at the 13th's first TOKEN).")
  static void twelveClauses() {
    String laws = "fits" + ";fits".repeat(11), orders = "pass" + ";pass".repeat(11);
    due("twelve of a law", faultOfLaw(laws), -1);
    due("twelve orders", faultOfOrders(orders), -1);
    due("a thirteenth of a law", faultOfLaw(laws + ";fits"), 60);
    due("a thirteenth order", faultOfOrders(orders + ";pass"), 60);
    due("behind blanks", faultOfLaw(laws + ";   bars"), 63);
    due("a thirteenth that could not be either", faultOfLaw(laws + "; fits 1"), 61);
    due("nothing behind the twelfth", faultOfLaw(laws + ";"), 60);
    due("blanks alone behind the twelfth", faultOfLaw(laws + ";  "), 62);
    due("a fault in the twelfth", faultOfLaw("fits" + ";fits".repeat(10) + ";fits 1;fits"), 60);
    due("fourteen", faultOfLaw(laws + ";fits;fits"), 60);
    due("an empty one at first", faultOfLaw(";fits"), 0);
    due("an empty one between", faultOfLaw("fits; ;fits"), 6);
    due("an empty one at the end", faultOfOrders("pass;"), 5);
    due("two without a sign between", faultOfLaw("fits bars"), 5);
    TicketHall x = held(1);
    force(x, "costs 1" + ";costs 2".repeat(10) + ";costs 3 if person = 0");
    due("the twelfth is asked", x.of(0, 3), 3);
    due("twelve are run", orders(x, orders), 12);
  }

  @Says(in = "II", value = "TEST: BOTH {\"or\" BOTH}.")
  static void anyOf() {
    so("1=1", "1=1 or 1=2", "1=2 or 1=1", "1=2 or 1=2 or 1=2 or 1=1", "1=1 or 1=2 or 1=2", "1=2 and 1=2 or 1=1", "1=1 or 1=2 and 1=2",
        "not 1=2 or 1=2", "not (not 1=1 or 1=2)", "(not 1=2 or 1=2) and 1=1");
    notSo("1=2 or 1=2", "1=2 or 1=2 or 1=2", "not (1=1 or 1=2)", "not (not 1=2 or 1=2)", "(not 1=2 or 1=2) and 1=2");
    badLaw("fits if 1=1 or", 14);
    badLaw("fits if or 1=1", 8);
    badLaw("fits if 1=1 or or 1=1", 15);
    badLaw("fits if 1=1 xor 1=1", 12);
  }

  @Says(in = "II", value = "BOTH: PLAIN {\"and\" PLAIN}.")
  static void allOf() {
    so("1=1 and 2=2", "1=1 and 2=2 and 3=3", "(1=1 or 1=2) and 1=1", "not (1=2 and 1=1)", "not (not 1=1 and 1=1)", "not 1=1 and 1=1 or 1=1");
    notSo("not (not 1=2 and 1=1)", "not 1=1 and 1=1 or 1=2", "1=1 and 1=2", "1=2 and 1=1", "1=1 and 2=2 and 1=2", "1=2 and 1=1 and 1=1", "(1=1 or 1=2) and 1=2");
    badLaw("fits if 1=1 and", 15);
    badLaw("fits if and 1=1", 8);
    badLaw("fits if 1=1 and or 1=1", 16);
  }

  @Says(in = "II", value = "PLAIN: \"not\" PLAIN | \"(\" TEST \")\" | SUM (\"<\" | \">\" | \"=\") SUM.")
  static void plain() {
    so("not (not 1=1)", "not 2<1", "not 1>2", "not (2<1 or 1>2)", "not (not (not 1=2))", "not (not 1=1) and 1=1");
    notSo("not (not 1=2)", "not 1=1 and 1=1", "2<1 and 1=1", "1>2 and 1=1", "(not 1=1) or 1=2");
    so("not 1=2", "not not 1=1", "not not not 1=2", "not (1=2 or 1=2)", "not 1=2 and 1=1", "not(1=1 and 1=2)", "((1=1))", "1<2", "2>1", "2=2",
        "0 - 1 < 0", "1 + 1 > 1");
    notSo("not 1=1", "not not 1=2", "1<1", "1>1", "2<1", "1>2", "1=2", "not (1=1) or 1=2", "not 1=1 and 1=2");
    goodLaws("bars if " + "not ".repeat(97) + "1=1");
    badLaw("fits if not", 11);
    badLaw("fits if ()", 9);
    badLaw("fits if (1) = 1", 10);
    badLaw("fits if 1 = 1 = 1", 14);
    badLaw("fits if (1=1", 12);
    badLaw("fits if (1=1]", 12);
    badLaw("fits if 1=1)", 11);
    badLaw("fits if [1=1]", 10);
    so("not ".repeat(96) + "1=1");
    notSo("not ".repeat(95) + "1=1");
  }

  @Says(in = "II", value = "SUM: TERM {(\"+\" | \"-\") TERM}.")
  static void sums() {
    so("10 - 3 - 2 = 5", "10 - 3 + 2 = 9", "1 + 2 + 3 + 4 = 10", "2 + 3 * 4 = 14", "2 * 3 + 4 = 10", "20 - 6 / 2 = 17", "0 - 0 = 0");
    badLaw("takes 1 +", 9);
    badLaw("takes + 1", 6);
    badLaw("takes 1 - - 1", 10);
  }

  @Says(in = "II", value = "TERM: PART {(\"*\" | \"/\" | \"%\") PART}.")
  static void terms() {
    so("100 / 10 / 5 = 2", "100 / 10 * 5 = 50", "17 % 10 % 4 = 3", "2 * 9 % 5 = 3", "9 % 5 * 2 = 8", "7 * 0 = 0");
    badLaw("takes 1 *", 9);
    badLaw("takes * 1", 6);
    badLaw("takes 1 % / 1", 10);
  }

  @Says(in = "II", value = "PART: NUMBER (to 1,000) | \"[\" SUM \"]\" | a word, as told.")
  static void parts() {
    goodLaws("takes 0", "takes 1", "takes 999", "takes 1000", "takes 0001000", "takes [1]", "takes [1 + [2]]", "takes mood");
    badLaw("takes 1001", 6);
    badLaw("takes 10000", 6);
    badLaw("takes 4294967297", 6);
    badLaw("takes 18446744073709551617", 6);
    badLaw("fits if 1 = 1001", 12);
    badLaw("takes []", 7);
    badLaw("takes [1", 8);
    badLaw("takes [1)", 8);
    badLaw("takes (1)", 6);
    badLaw("takes 1]", 7);
    badLaw("takes fits", 6);
    badLaw("takes done", 6);
    so("0 = 000", "1000 = 999 + 1", "[2 + 3] * 4 = 20", "2 * [3 - [4 - 5]] = 8", "[[7]] = 7");
  }

  @Says(in = "II", value = "50 PARTS that are NUMBERS and words (FAULT at the 51st)")
  static void fiftyParts() {
    String forty9 = "takes 1" + "+1".repeat(48);
    due("fifty numbers", faultOfLaw(forty9 + "+1"), -1);
    due("fifty with a word", faultOfLaw(forty9 + "+kind"), -1);
    due("a 51st number", faultOfLaw(forty9 + "+kind+1"), forty9.length() + 6);
    due("a 51st word", faultOfLaw(forty9 + "+1+ mood"), forty9.length() + 4);
    due("a 51st in another clause", faultOfLaw(forty9 + "+1;fits;costs 2"), forty9.length() + 14);
    due("a 51st in a test", faultOfLaw(forty9 + " if 1 = 2"), forty9.length() + 8);
    due("a 51st within brackets", faultOfLaw(forty9 + "+1+[[2]]"), forty9.length() + 5);
    due("signs and brackets are none", faultOfLaw("takes [[1]]" + "+[1]".repeat(49) + ";fits;bars"), -1);
    due("numbers that are too large come first", faultOfLaw(forty9 + "+1001"), forty9.length() + 1);
    String orders = "drop 9" + "+1".repeat(48);
    due("fifty in orders", faultOfOrders(orders + "+free"), -1);
    due("a 51st in orders", faultOfOrders(orders + "+free;drop done"), orders.length() + 11);
    TicketHall x = held(1);
    force(x, forty9 + "+1");
    x.desk(31, 1);
    due("all fifty are summed", x.asks(0, 0, 3), 50);
    due("the next text has fifty again", law(x, forty9 + "+1"), 1);
  }

  @Says(in = "II", value = "8 brackets of both kinds within one another (FAULT at the 9th) at most.")
  static void eightBrackets() {
    for (int round = 0; round <= 8; round++) {
      String open = "(".repeat(round) + "[".repeat(8 - round), close = "]".repeat(8 - round);
      String test = open + "3" + close + " = 3" + ")".repeat(round);
      due("eight, " + round + " of them round", faultOfLaw("bars if " + test), -1);
      due("asked, too", isSo(test), 1);
      due("a ninth behind them", faultOfLaw("bars if " + open + "[3]"), 16);
      due("a ninth round one ahead of them", faultOfLaw("bars if (" + test + ")"), 16);
    }
    due("a ninth round one", faultOfLaw("bars if " + "(".repeat(9)), 16);
    due("a ninth in a sum", faultOfLaw("takes " + "[".repeat(9) + "1" + "]".repeat(9)), 14);
    due("one behind another do not count", faultOfLaw("takes " + "[1]+".repeat(12) + "[[[[[[[[1]]]]]]]]"), -1);
    due("nor round ones", faultOfLaw("fits if " + "(1=1) and ".repeat(12) + "((((((((1=1))))))))"), -1);
    due("nor those of another clause", faultOfLaw("takes [[[[[[[[1]]]]]]]];takes [[[[[[[[1]]]]]]]]"), -1);
    due("a ninth right of a sign", faultOfLaw("bars if (((([[[[1]]]] = [[[[[1"), 28);
    due("eight in orders", faultOfOrders("drop [[[[[[[[9]]]]]]]]"), -1);
    due("a ninth in orders", faultOfOrders("drop [[[[[[[[[9]]]]]]]]]"), 13);
    due("not closed", faultOfLaw("takes [[[[[[[[1]]]]]]]"), 22);
    due("closed once more", faultOfLaw("takes [[[[[[[[1]]]]]]]]]"), 23);
    due("deepest", isSo("((((1 + 1 * [2 + 2 * [3 + 3 * [4 + 4 * [5 + 5 * 6]]]] = 873))))"), 1);
  }

  @Says(in = "II", value = "FAULT: the first TOKEN that can't go on there (the end's: the TEXT's length).")
  static void firstFault() {
    badLaw("", 0);
    badLaw(" ", 1);
    badLaw("takes", 5);
    badLaw("takes  ", 7);
    badLaw("takes 1 if", 10);
    badLaw("fits if 1", 9);
    badLaw("fits if 1 =", 11);
    badLaw("fits if (1=1", 12);
    badLaw("fits if 1=1 1=1", 12);
    badLaw("x y z", 0);
    badLaw("fits x y", 5);
    badLaw("fits 1 if 1/", 5);
    badLaw("takes 1001 1001", 6);
    badOrders("", 0);
    badOrders("draw", 4);
    badOrders("draw 1 ", 7);
    badOrders("draw 1 by", 9);
    badOrders("pass times", 10);
    badOrders("drop has  ", 10);
  }

  @Says(in = "II", value = "Beyond 1,000,000,000 either way")
  static void beyond() {
    String below = "0 - " + THOUSAND_MILLIONS;
    so(THOUSAND_MILLIONS + " > 0", below + " < 0", THOUSAND_MILLIONS + " - 1 + 1 > 0", THOUSAND_MILLIONS + " * 1 = " + THOUSAND_MILLIONS,
        THOUSAND_MILLIONS + " + [" + below + "] = 0", "999 * 1000 * 1000 + 999 * 1000 + 1000 = " + THOUSAND_MILLIONS);
    broken(THOUSAND_MILLIONS + " + 1 > 0", below + " - 1 < 0", "1 + " + THOUSAND_MILLIONS + " > 0", THOUSAND_MILLIONS + " * 2 > 0",
        "[" + below + "] * 2 < 0", "1 = " + THOUSAND_MILLIONS + " + 1", "1000 * 1000 * [1000 + 1] > 0", "1 > " + below + " - 1");
    broken(THOUSAND_MILLIONS + " + 1 - 1 > 0", THOUSAND_MILLIONS + " * 1000 / 1000 > 0", below + " - 1 + 1 < 0",
        THOUSAND_MILLIONS + " * [" + THOUSAND_MILLIONS + "] > 0", THOUSAND_MILLIONS + " * [" + below + "] < 0",
        "[1000 * 1000 * 1000 + 1] * 0 = 0", "1000*1000*1000*1000*1000*1000*1000 > 0");
  }

  @Says(in = "II", value = "or divided by 0 (/ cut towards 0, % what is left then)")
  static void divided() {
    broken("1 / 0 = 0", "1 % 0 = 0", "0 / 0 = 0", "0 % 0 = 0", "1 / [2 - 2] = 0", "0 * [1 / 0] = 0", "1 = 1 / 0");
    so("7 / 2 = 3", "[0 - 7] / 2 = 0 - 3", "7 / [0 - 2] = 0 - 3", "[0 - 7] / [0 - 2] = 3", "0 / 5 = 0", "1 / 2 = 0", "[0 - 1] / 2 = 0");
    so("7 % 2 = 1", "[0 - 7] % 2 = 0 - 1", "7 % [0 - 2] = 1", "[0 - 7] % [0 - 2] = 0 - 1", "0 % 5 = 0", "6 % 3 = 0", "2 % 3 = 2", "5 % 1 = 0");
    so(THOUSAND_MILLIONS + " / [0 - 1] < 0", THOUSAND_MILLIONS + " % [0 - 1] = 0");
  }

  @Says(in = "II", value = "a SUM, a TEST is BROKEN")
  static void brokenOnes() {
    TicketHall x = held(1);
    x.desk(31, 1);
    force(x, "takes 9; takes 1 / 0; costs 8; costs 5 if 1 % 0 = 0");
    due("a broken sum tells nothing", x.asks(0, 0, 3), 9);
    due("a broken test is not so", x.of(0, 3), 8);
    broken("1/0 = 1", "(1/0 = 1)", "not 1/0 = 1", "not not 1/0 = 1", "1=1 and 1/0=1", "1=2 or 1/0=1", "(1/0=1) or 1=1");
  }

  @Says(in = "II", value = "(\"or\", \"and\" ask what stands behind only if it can still matter).")
  static void notAskedBehind() {
    so("1=1 or 1/0=1", "not (1=2 and 1/0=1)", "1=1 or 1/0=1 or 1/0=1", "1=2 or 1=1 or 1/0=1", "1=1 or 1=1 and 1/0=1", "1=1 and 2=2 or 1/0=1",
        "1=2 and 1/0=1 or 1=1", "(1=1 or 1/0=1) and 1=1", "not (1=2 and 1/0=1 and 1/0=1)", "not (1=1 and 1=2 and 1/0=1)",
        "not (1=2 and (1/0=1 or 1=1))");
    broken("1/0=1 or 1=1", "1/0=1 and 1=2", "1=2 or 1/0=1", "1=1 and 1/0=1", "1=2 or 1/0=1 or 1=1", "1=1 and 1/0=1 and 1=2", "1=1 and 1/0=1 or 1=1");
  }
}
