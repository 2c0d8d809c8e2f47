import java.util.Random;

/** Random texts of either language: most can be, some are spoilt in one place, some are at a limit. */
final class Texts {
  private final Random random;
  private final boolean orders;
  private int open = 0;

  Texts(Random random, boolean orders) {
    this.random = random;
    this.orders = orders;
  }

  String text() {
    int kind = random.nextInt(30);
    String text;
    if (kind == 0) text = many(random.nextInt(3) + 11);
    else if (kind == 1) text = deep(random.nextInt(3) + 7);
    else if (kind == 2) text = longSum(random.nextInt(4) + 49);
    else if (kind == 3) text = " ".repeat(random.nextInt(5));
    else if (kind == 4) text = nots(random.nextInt(90));
    else text = clauses(random.nextInt(4) == 0 ? random.nextInt(8) + 1 : random.nextInt(3) + 1);
    if (random.nextInt(6) == 0) text = spoilt(text);
    if (random.nextInt(3) == 0) text = blanks(text);
    return text.length() > 400 ? text.substring(0, 400) : text;
  }

  private String many(int n) {
    StringBuilder b = new StringBuilder();
    for (int i = 0; i < n; i++) b.append(i > 0 ? ";" : "").append(orders ? "pass" : random.nextBoolean() ? "fits" : "takes 2");
    if (random.nextInt(3) == 0) b.append(";");
    return b.toString();
  }

  private String deep(int n) {
    StringBuilder b = new StringBuilder(orders ? "pass if " : "bars if ");
    int round = random.nextInt(n + 1);
    b.append("(".repeat(round)).append("[".repeat(n - round)).append("3");
    b.append("]".repeat(n - round)).append(" > 2").append(")".repeat(round));
    if (random.nextInt(3) == 0) b.append(" and [1] = 1");
    return b.toString();
  }

  private String longSum(int n) {
    StringBuilder b = new StringBuilder(orders ? "drop 1" : "takes 1");
    for (int i = 1; i < n; i++) b.append("+-*/%".charAt(random.nextInt(5))).append(random.nextInt(4) == 0 ? "minute" : "" + random.nextInt(12));
    return b.toString();
  }

  private String nots(int n) {
    return (orders ? "pass if " : "bars if ") + "not ".repeat(n) + "1 = 1";
  }

  private String clauses(int n) {
    StringBuilder b = new StringBuilder(clause());
    for (int i = 1; i < n; i++) b.append(";").append(clause());
    return b.toString();
  }

  private String clause() {
    String c;
    if (orders) {
      switch (random.nextInt(6)) {
        case 0: case 1: c = "draw " + small(7) + " by " + small(5); break;
        case 2: c = "swap " + small(5) + " with " + small(5); break;
        case 3: c = "drop " + small(5); break;
        default: c = "pass"; break;
      }
      if (random.nextInt(4) == 0) c += " times " + (random.nextInt(12) == 0 ? random.nextInt(23) : random.nextInt(3) + 1);
    } else {
      switch (random.nextInt(5)) {
        case 0: case 1: c = "takes " + sum(2); break;
        case 2: c = "costs " + sum(2); break;
        case 3: c = "fits"; break;
        default: c = "bars"; break;
      }
    }
    if (random.nextInt(orders ? 2 : 4) > 0 || c.equals("bars")) c += " if " + test(2);
    return c;
  }

  private String small(int high) {
    return random.nextInt(6) == 0 ? sum(1) : "" + random.nextInt(high + 1);
  }

  private String test(int deep) {
    int r = deep <= 0 ? 5 : random.nextInt(9);
    if (r == 0) return test(deep - 1) + " or " + test(deep - 1);
    if (r == 1) return test(deep - 1) + " and " + test(deep - 1);
    if (r == 2) return "not " + test(deep - 1);
    if (r == 3 && open < 8) {
      open++;
      String t = "(" + test(deep - 1) + ")";
      open--;
      return t;
    }
    return sum(1) + " " + "<>=".charAt(random.nextInt(3)) + " " + sum(1);
  }

  private String sum(int deep) {
    int r = deep <= 0 ? 9 : random.nextInt(11);
    if (r < 4) return sum(deep - 1) + " " + "+-*/%".charAt(random.nextInt(5)) + " " + sum(deep - 1);
    if (r == 4 && open < 8) {
      open++;
      String s = "[" + sum(deep - 1) + "]";
      open--;
      return s;
    }
    return part();
  }

  private String part() {
    int r = random.nextInt(8);
    if (r < 3) return "" + random.nextInt(random.nextInt(4) == 0 ? 1002 : 12);
    String[] words = orders ? "minute done latest fit free has patience".split(" ")
        : "person business patience ticket number kind speed minute mood".split(" ");
    String w = words[random.nextInt(words.length)];
    return orders && (w.equals("has") || w.equals("patience")) ? w + " " + (random.nextInt(40) == 0 ? 6 : random.nextInt(6)) : w;
  }

  private String spoilt(String text) {
    int at = random.nextInt(text.length() + 1);
    switch (random.nextInt(4)) {
      case 0: return text.substring(0, at);
      case 1: return at < text.length() ? text.substring(0, at) + text.substring(at + 1) : text + ";";
      case 2: return text.substring(0, at) + (char) random.nextInt(256) + text.substring(at);
      default:
        String[] bits = {" if ", ";", "(", ")", "[", "]", " not ", " or ", " and ", "12", " kind ", " times 2", " by ", "+", "<", "00000000000000000007"};
        return text.substring(0, at) + bits[random.nextInt(bits.length)] + text.substring(at);
    }
  }

  private String blanks(String text) {
    return " ".repeat(random.nextInt(3)) + text.replace("+", " + ").replace(" = ", random.nextBoolean() ? "=" : " =  ") + " ".repeat(random.nextInt(3));
  }
}
