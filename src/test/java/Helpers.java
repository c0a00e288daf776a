/** What tests of single answers have in common. */
abstract class Helpers {
  static final int MIN = Integer.MIN_VALUE;
  static final int MAX = Integer.MAX_VALUE;
  /** Loans to 100 pence, a half penny for each 10 pence and half month. */
  static final String PLAIN = "upto 100 take 1 per 10;";
  /** Where the tests are, told with what is wrong. */
  static String at = "";
  static int wrong = 0;

  static void due(String call, long got, long want) {
    if (got != want) {
      wrong++;
      System.out.println(at + ": " + call + " answered " + got + ", due is " + want);
    }
  }

  static void feed(BrassBalls b, String text) {
    StringBuilder s = new StringBuilder(text);
    while (s.length() % 20 != 0) {
      s.append(' ');
    }
    for (int from = 0; from < s.length(); from += 20) {
      int[] v = new int[5];
      for (int j = 0; j < 20; j++) {
        v[j / 4] = v[j / 4] << 8 | s.charAt(from + j);
      }
      b.feed(v[0], v[1], v[2], v[3], v[4]);
    }
  }

  /** A text is fed and read: what 0 THE LAW, 1 LOOKS. */
  static int tell(BrassBalls b, int what, String text) {
    feed(b, text);
    return b.text(what, text.length());
  }

  static BrassBalls shop(String law) {
    BrassBalls b = new BrassBalls();
    tell(b, 0, law);
    return b;
  }

  /** With a KIND of cloth (size 3, 10 to 14 pence), another (size 2, 100 pence, half of them glass), two PEOPLE with 100 pence. */
  static BrassBalls busy(String law) {
    BrassBalls b = shop(law);
    b.kind(3, 10, 14, 0, true);
    b.kind(2, 100, 100, 50, false);
    b.person(30, 5, 20, 100);
    b.person(10, 5, 5, 100);
    return b;
  }

  static void row(BrassBalls b, int row, int sort, long... numbers) {
    b.row(row, sort, numbers.length);
    for (int i = 0; i < numbers.length; i++) {
      b.write(row, i, numbers[i]);
    }
  }

  /** The number on a TICKET. */
  static int number(int serial) {
    return 100 * serial + (31 * serial + 17) % 97;
  }

  /** A text and its FAULT with the place; 0 and -1: none. */
  static void fault(int what, String text, int fault, int place) {
    BrassBalls b = new BrassBalls();
    due(text, tell(b, what, text), fault == 0 ? b.count(5 + what) : -10 - fault);
    due("FAULT of " + text, b.fault(0), fault);
    due("place in " + text, b.fault(1), place);
  }

  /** All that can be told of a small shop without a change, but for THE TAPE and the FAULT. */
  static String told(BrassBalls b) {
    StringBuilder s = new StringBuilder();
    for (int what = 0; what < 12; what++) {
      add(s, what == 7 ? 0 : b.count(what));
    }
    add(s, b.count(20), b.count(21), b.count(22));
    for (int p = 0; p < 6; p++) {
      s.append("pledge ");
      for (int what = 0; what < 9; what++) {
        add(s, b.of(p, what));
      }
      add(s, b.renewals(p, 0), b.renewals(p, 1));
    }
    for (int p = 0; p < 4; p++) {
      add(s, b.purse(p), b.runs(p, 0), b.runs(p, 1), b.chain(p));
    }
    for (int serial = 1; serial < 8; serial++) {
      add(s, b.ticket(number(serial)), b.held(number(serial), 1), b.held(number(serial), 2), b.hand(number(serial), 4, 4, 4, 4, 4));
    }
    for (int what = 0; what < 5; what++) {
      add(s, b.book(0, what), b.book(4, what));
    }
    add(s, b.worst(1, 1), b.worst(4, 1), b.fits(0, -1), b.fits(0, 0), b.fits(1, -1), b.fits(1, 0), b.passed(-1), b.passed(0), b.passed(1));
    add(s, b.match(-1), b.match(0), b.match(1), b.interest(0, 20, 0, 9), b.interest(0, 99, 0, 9), b.interest(1, 50, 0, 9), b.interest(1, 51, 0, 0));
    add(s, b.gained(0, 9, 5, 5), b.gained(1, 9, 5, 5), b.gained(2, 9, 5, 5), b.life(0, 0, 9, 99, 0), b.life(1, 0, 9, 99, 0), b.needs(2, 0, 9, 9));
    add(s, b.street(9, 0), b.shilling(2), b.rush(0, 3), b.trips(0, 3, 9), b.foresee(true), b.lots(1, -1), b.best(2, 1, -1), b.best(0, 1, 0));
    return s.toString();
  }

  static void add(StringBuilder s, long... answers) {
    for (long answer : answers) {
      s.append(answer).append(' ');
    }
  }
}
