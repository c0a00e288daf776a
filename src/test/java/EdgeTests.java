import java.nio.file.Files;
import java.nio.file.Path;
import java.util.ArrayList;
import java.util.List;

/**
 * Each sentence of the document that names an edge (too small, too large, empty, full, a wrap-around), in the document's order and in its words,
 * with a test of its own; the refused calls stand in RefusedTests. With the document's path as an argument it is also looked whether the words
 * still stand there.
 */
public final class EdgeTests extends Helpers {
  /** A half penny for each penny and half month. */
  private static final String PENNIES = "upto 999 take 1 per 1;";
  private static final List<String> SENTENCES = new ArrayList<>();

  private static void edge(String sentence, Runnable test) {
    at = sentence;
    SENTENCES.add(sentence);
    test.run();
  }

  private static String times(int n, String text) {
    return text.repeat(n);
  }

  /** The LAW with some rule lets a PLEDGE of 5 pence come in WEEK 0; cloth of 10 to 14 pence. */
  private static BrassBalls pledged(String law) {
    BrassBalls b = busy(law);
    b.pledge(0, 0, 5);
    return b;
  }

  private static void later(BrassBalls b, int weeks) {
    for (int left = weeks; left > 0; left -= 52) {
      b.weeks(Math.min(52, left));
    }
  }

  // ==== 1. all that is told first

  private static void callsAndWeeks() {
    edge("An object is used for at most 512 calls after it has been made", () -> {
      BrassBalls b = new BrassBalls();
      for (int i = 1; i < 512; i++) {
        due("call " + i, b.row(i % 4, i % 4, i % 41), 0);
      }
      due("call 512: a number of ROW 3, which has 19", b.write(3, 18, 5), 5);
    });
    edge("WEEK is 0 at first (300 at most)", () -> {
      BrassBalls b = busy(PLAIN);
      due("WEEK", b.count(8), 0);
      for (int i = 1; i <= 5; i++) {
        due("weeks", b.weeks(52), 52 * i);
      }
      due("301", b.weeks(41), -5);
      due("300", b.weeks(40), 300);
      due("301", b.weeks(1), -5);
      due("WEEK", b.count(8), 300);
      due("a PLEDGE in the last WEEK", b.pledge(0, 0, 5), 148);
      due("from WEEK 300", b.of(0, 3), 300);
      due("DUE", b.held(148, 2), 11);
      due("BOOKS of WEEK 300", b.book(300, 2), 1);
      due("none of WEEK 301", b.book(301, 2), -2);
      due("52 WEEKS with the last", b.worst(52, 0), 249);
      due("how much", b.worst(52, 1), 10);
    });
  }

  private static void kinds() {
    edge("KINDS, at most 12, numbered as they come", () -> {
      BrassBalls b = shop(PLAIN);
      b.person(1, 1, 1, 1);
      for (int i = 0; i < 12; i++) {
        due("kind", b.kind(1, 1 + i, 20 + i, 5, false), i);
      }
      due("the 13th", b.kind(1, 1, 1, 5, false), -4);
      due("how many", b.count(0), 12);
      b.pledge(11, 0, 5);
      due("LOW of the last", b.of(0, 7), 12);
      due("HIGH of the last", b.of(0, 8), 31);
      due("none behind it", b.pledge(12, 0, 5), -2);
    });
    edge("a SIZE (1 to 9)", () -> {
      BrassBalls b = busy(PLAIN);
      for (int size = -2; size <= 12; size++) {
        due("SIZE " + size, b.kind(size, 5, 5, 5, false), size < 1 || size > 9 ? -3 : 1 + size);
      }
      b.rack(10, 0);
      b.pledge(10, 0, 5);
      b.pledge(2, 0, 5);
      due("9 of 10", b.put(0, 0), 1);
      due("1 of 1", b.put(1, 0), 0);
    });
    edge("LOW and HIGH (1 to 999 pence, LOW not above HIGH", () -> {
      BrassBalls b = busy(PLAIN);
      int[][] right = {{1, 1}, {1, 999}, {999, 999}, {5, 5}, {5, 6}};
      for (int i = 0; i < right.length; i++) {
        due("can be", b.kind(1, right[i][0], right[i][1], 0, false), 2 + i);
        b.pledge(2 + i, 0, 5);
        due("LOW", b.of(i, 7), right[i][0]);
        due("HIGH", b.of(i, 8), right[i][1]);
      }
      int[][] bad = {{0, 0}, {0, 1}, {1, 0}, {-1, 5}, {1, 1000}, {1000, 1000}, {6, 5}, {999, 998}, {2, 1}};
      for (int[] k : bad) {
        due(k[0] + " to " + k[1], b.kind(1, k[0], k[1], 0, false), -3);
      }
    });
    edge("each whole penny from one to the other is as likely to be fetched", () -> {
      BrassBalls b = shop("upto 999 take 0 per 1;");
      b.kind(1, 5, 5, 0, false);
      b.kind(1, 1, 999, 0, false);
      b.kind(1, 5, 6, 0, false);
      due("one penny, its own", b.gained(0, 5, 0, 1), 0);
      due("one penny, less than lent", b.gained(0, 6, 0, 1), -200000);
      due("999 pennies, 1000 half pence on the mean", b.gained(1, 999, 0, 1), -99800000);
      due("999 pennies, one of them less than lent", b.gained(1, 2, 0, 1), -200);
      due("two pennies", b.gained(2, 6, 0, 1), -100000);
    });
    edge("GLASS (0 to 99 of a hundred fetch nothing)", () -> {
      BrassBalls b = shop("upto 999 take 0 per 1;");
      due("-1", b.kind(1, 5, 5, -1, false), -3);
      due("100", b.kind(1, 5, 5, 100, false), -3);
      due("0", b.kind(1, 5, 5, 0, false), 0);
      due("99", b.kind(1, 5, 5, 99, false), 1);
      due("1", b.kind(1, 5, 5, 1, false), 2);
      due("none is glass", b.gained(0, 1, 0, 1), 0);
      due("99 are", b.gained(1, 1, 0, 1), -198000);
      due("one is", b.gained(2, 1, 0, 1), -2000);
    });
    edge("CLOTH or not", () -> {
      BrassBalls b = busy(PLAIN + "moth 10;");
      b.pledge(0, 0, 5);
      b.pledge(1, 0, 5);
      b.weeks(10);
      due("CLOTH", b.of(0, 7), 9);
      due("not", b.of(1, 7), 100);
    });
  }

  private static void people() {
    edge("PEOPLE, at most 16, numbered as they come", () -> {
      BrassBalls b = new BrassBalls();
      for (int i = 0; i < 16; i++) {
        due("person", b.person(1, 1, 1, i), i);
      }
      due("the 17th", b.person(1, 1, 1, 1), -4);
      due("how many", b.count(1), 16);
      due("the first", b.purse(0), 0);
      due("the last", b.purse(15), 30);
      due("none behind it", b.purse(16), -1000000);
    });
    edge("PAY, RENT, FOOD (0 to 999 pence a WEEK each)", () -> {
      BrassBalls b = busy(PLAIN + "ticket 1;");
      for (int bad : new int[] {-1, 1000}) {
        due("PAY", b.person(bad, 0, 0, 0), -3);
        due("RENT", b.person(0, bad, 0, 0), -3);
        due("FOOD", b.person(0, 0, bad, 0), -3);
      }
      due("0 each", b.person(0, 0, 0, 0), 2);
      due("999 each", b.person(999, 999, 999, 999), 3);
      due("PAY alone", b.person(999, 0, 0, 0), 4);
      due("nothing goes", b.life(2, 0, 1, 104, 0), -1);
      due("999 go", b.life(3, 0, 1, 2, 0), 1);
      due("999 come", b.life(4, 0, 1, 104, 0), -1);
    });
    edge("a PURSE (0 to 9999 pence as told)", () -> {
      BrassBalls b = new BrassBalls();
      due("-1", b.person(0, 0, 0, -1), -3);
      due("10000", b.person(0, 0, 0, 10000), -3);
      due("0", b.person(0, 0, 0, 0), 0);
      due("9999", b.person(0, 0, 0, 9999), 1);
      due("in half pence", b.purse(0), 0);
      due("in half pence", b.purse(1), 19998);
    });
  }

  /** What an N may be: its bounds, and one beyond them. */
  private static void bounds(int what, String ahead, int low, int high, String behind) {
    for (int n : new int[] {low, low + 1, high - 1, high}) {
      fault(what, ahead + n + behind, 0, -1);
    }
    if (low > 0) {
      fault(what, ahead + (low - 1) + behind, 3, ahead.length());
    }
    fault(what, ahead + (high + 1) + behind, high == 999 ? 1 : 3, ahead.length());
    fault(what, ahead + "999" + behind, high == 999 ? 0 : 3, high == 999 ? -1 : ahead.length());
  }

  private static void lawBounds() {
    edge("THE LAW is a TEXT of at most 400 bytes", () -> {
      fault(0, "year 5" + times(393, " ") + ";", 0, -1);
      fault(0, "year 5" + times(394, " "), 2, 400);
      fault(0, times(393, "\n") + "year 5;", 0, -1);
      fault(0, times(399, " ") + "#", 1, 399);
      fault(0, times(400, " "), 0, -1);
    });
    edge("(empty at first): { LINE ; }", () -> {
      BrassBalls b = busy("");
      due("LINES", new BrassBalls().count(5), 0);
      due("nothing is lent", b.pledge(0, 0, 1), -5);
      due("nothing is lent", b.interest(0, 1, 0, 0), -5);
      due("none is still none", b.text(0, 0), 0);
      due("emptied again", tell(b, 0, PLAIN), 1);
      due("emptied again", b.text(0, 0), 0);
      due("nothing is lent", b.pledge(0, 0, 1), -5);
      fault(0, ";", 2, 0);
      fault(0, "year 5;;", 2, 7);
      fault(0, "year 5;least 5", 2, 14);
    });
    edge("upto 1 to 999 (pence", () -> {
      bounds(0, "upto ", 1, 999, " take 5 per 5;");
      BrassBalls b = shop("upto 1 take 5 per 5;");
      due("1", b.interest(0, 1, 0, 0), 5);
      due("2", b.interest(0, 2, 0, 0), -5);
      tell(b, 0, "upto 999 take 5 per 500;");
      due("999", b.interest(0, 999, 0, 0), 10);
    });
    edge("each above that of the upto ahead", () -> {
      String ahead = "upto 5 take 9 per 9;upto ";
      fault(0, ahead + "6 take 9 per 9;", 0, -1);
      fault(0, ahead + "5 take 9 per 9;", 3, 25);
      fault(0, ahead + "4 take 9 per 9;", 3, 25);
      fault(0, "upto 999 take 9 per 9;upto 999 take 9 per 9;", 3, 27);
      fault(0, ahead + "8 take 9 per 9;year 5;upto 8 take 9 per 9;", 3, 52);
      fault(0, ahead + "8 take 9 per 9;year 5;upto 9 take 9 per 9;", 0, -1);
      fault(0, "upto 1 take 9 per 9;upto 2 take 9 per 9;upto 3 take 9 per 9;", 0, -1);
    });
    edge("at most 8), take 0 to 99, per 1 to 999", () -> {
      StringBuilder eight = new StringBuilder();
      for (int i = 1; i <= 8; i++) {
        eight.append("upto ").append(i).append(" take ").append(i).append(" per 9;");
      }
      BrassBalls b = new BrassBalls();
      due("8", tell(b, 0, eight.toString()), 8);
      due("the eighth", b.interest(0, 8, 0, 0), 8);
      fault(0, eight + "upto 9 take 1 per 1;", 4, 160);
      fault(0, eight + "year 5;", 0, -1);
      due("and each other one", tell(b, 0, eight + "least 1;ticket 1;sworn 1;year 1;moth 1;hold 1;"), 14);
      bounds(0, "upto 5 take ", 0, 99, " per 5;");
      bounds(0, "upto 5 take 5 per ", 1, 999, ";");
      due("take 0", shop("upto 999 take 0 per 1;").interest(0, 999, 0, 300), 0);
      due("take 99", shop("upto 999 take 99 per 1;").interest(0, 999, 0, 0), 98901);
      due("per 999", shop("upto 999 take 7 per 999;").interest(0, 999, 0, 0), 7);
      due("per 998", shop("upto 999 take 7 per 998;").interest(0, 999, 0, 0), 14);
    });
    edge("least 0 to 99", () -> {
      bounds(0, "least ", 0, 99, ";");
      due("0", shop(PLAIN + "least 0;").interest(0, 1, 0, 0), 1);
      due("99", shop(PLAIN + "least 99;").interest(0, 1, 0, 0), 99);
    });
    edge("ticket 0 to 20", () -> {
      bounds(0, "ticket ", 0, 20, ";");
      due("0", pledged(PLAIN + "ticket 0;").purse(0), 210);
      due("20", pledged(PLAIN + "ticket 20;").purse(0), 190);
    });
    edge("sworn 0 to 99", () -> {
      bounds(0, "sworn ", 0, 99, ";");
      BrassBalls b = pledged(PLAIN + "sworn 99;");
      due("swear", b.swear(0), 279);
      due("99", b.purse(0), 210 - 99);
      tell(b, 0, PLAIN + "sworn 0;");
      due("swear", b.swear(0), 313);
      due("0", b.purse(0), 210 - 99);
    });
    moreLawBounds();
  }

  private static void moreLawBounds() {
    edge("year 1 to 104 (52 without)", () -> {
      bounds(0, "year ", 1, 104, ";");
      String[] laws = {PLAIN + "year 1;", PLAIN, PLAIN + "year 104;"};
      int[] year = {1, 52, 104};
      for (int i = 0; i < 3; i++) {
        BrassBalls b = pledged(laws[i]);
        later(b, year[i] - 1);
        due("a WEEK less than " + year[i], b.passed(-1), 0);
        b.weeks(1);
        due("" + year[i], b.passed(-1), 1);
      }
    });
    edge("moth 0 to 20", () -> {
      bounds(0, "moth ", 0, 20, ";");
      BrassBalls b = pledged(PLAIN + "moth 20;");
      b.weeks(40);
      due("a fifth is left", b.of(0, 7), 2);
      b.weeks(9);
      due("a fifth is left", b.of(0, 7), 2);
      b.weeks(1);
      due("nothing", b.of(0, 8), 0);
      tell(b, 0, PLAIN + "moth 0;");
      due("0", b.of(0, 8), 14);
    });
    edge("hold 1 to 52 (2 without)", () -> {
      bounds(0, "hold ", 1, 52, ";");
      String[] laws = {PLAIN + "hold 1;", PLAIN, PLAIN + "hold 52;"};
      int[] hold = {1, 2, 52};
      for (int i = 0; i < 3; i++) {
        BrassBalls b = pledged(laws[i]);
        tell(b, 1, "seek if cloth;");
        due("hold", b.hold(0), 1);
        due("now", b.of(0, 6), 1);
        if (hold[i] > 1) {
          b.weeks(hold[i] - 1);
        }
        due("the last WEEK of " + hold[i], b.of(0, 6), 1);
        due("not FETCHED", b.fetch(148), -5);
        b.weeks(1);
        due("behind " + hold[i], b.of(0, 6), 0);
        due("FETCHED", b.fetch(148) > 0 ? 1 : 0, 1);
      }
    });
    edge("0 of the others without", () -> {
      BrassBalls b = pledged("upto 9 take 0 per 1;");
      due("ticket", b.purse(0), 210);
      due("least", b.held(148, 2), 10);
      due("sworn", b.swear(0), 279);
      due("sworn", b.purse(0), 210);
      later(b, 300);
      due("moth", b.of(0, 7), 10);
      due("what was told before is forgotten", tell(b, 0, "least 5;ticket 5;sworn 5;moth 5;"), 4);
      due("what was told before is forgotten", tell(b, 0, "year 9;"), 1);
      due("least", b.held(279, 2), 10);
      due("moth", b.of(0, 7), 10);
      due("ticket", b.renew(279), 313);
      due("ticket", b.purse(0), 210);
    });
    edge("All but upto are told once at most.", () -> {
      for (String name : new String[] {"least", "ticket", "sworn", "year", "moth", "hold"}) {
        fault(0, name + " 5;" + name + " 5;", 4, name.length() + 3);
        fault(0, name + " 5;upto 1 take 1 per 1;" + name + " 999;", 4, name.length() + 23);
      }
      fault(0, "least 5;ticket 5;sworn 5;year 5;moth 5;hold 5;", 0, -1);
      BrassBalls b = new BrassBalls();
      due("anew in each text", tell(b, 0, "year 5;"), 1);
      due("anew in each text", tell(b, 0, "year 5;"), 1);
    });
  }

  private static void looksBounds() {
    edge("LOOKS are a TEXT likewise (empty at first)", () -> {
      due("how many", new BrassBalls().count(6), 0);
      due("no LOOK", new BrassBalls().fits(0, -1), -2);
      BrassBalls b = pledged(PLAIN);
      due("400 bytes", tell(b, 1, "seek if " + times(64, "by1or ") + "  cloth;"), 1);
      due("the last of its FACTS", b.fits(0, -1), 1);
      due("emptied again", b.text(1, 0), 0);
      due("no LOOK", b.fits(0, -1), -2);
      fault(1, "seek if cloth" + times(386, " ") + ";", 0, -1);
      fault(1, "seek if cloth" + times(387, " "), 2, 400);
      fault(1, times(400, "\n"), 0, -1);
      fault(1, ";", 2, 0);
    });
    edge("kind 0 to 11, size 1 to 9, above 0 to 999, since 0 to 300, by 0 to 15", () -> {
      bounds(1, "seek if kind ", 0, 11, ";");
      bounds(1, "seek if size ", 1, 9, ";");
      bounds(1, "seek if above ", 0, 999, ";");
      bounds(1, "seek if since ", 0, 300, ";");
      bounds(1, "seek if by ", 0, 15, ";");
      fault(1, "seek if cloth 1;", 2, 14);
      BrassBalls b = shop(PENNIES);
      for (int i = 0; i < 12; i++) {
        b.kind(i == 0 ? 1 : 9, 1, 1, 0, false);
      }
      for (int i = 0; i < 16; i++) {
        b.person(1, 1, 1, 1);
      }
      b.pledge(0, 0, 1);
      later(b, 300);
      b.pledge(11, 15, 999);
      String[] first = {"kind 0", "size 1", "by 0", "not above 1", "not since 1"};
      String[] second = {"kind 11", "size 9", "by 15", "above 998", "since 300"};
      for (int i = 0; i < 5; i++) {
        tell(b, 1, "seek if " + first[i] + ";seek if " + second[i] + ";");
        due(first[i], b.fits(0, -1), 1);
        due(first[i], b.fits(0, 0), 0);
        due(second[i], b.fits(1, -1), 1);
        due(second[i], b.fits(1, 0), 1);
      }
      due("of all or none", tell(b, 1, "seek if above 0;seek if since 0;seek if above 999;"), 3);
      due("above 0", b.fits(0, -1), 2);
      due("since 0", b.fits(1, -1), 2);
      due("above 999", b.fits(2, -1), 0);
    });
    edge("at most 8 LOOKS, numbered as told", () -> {
      StringBuilder eight = new StringBuilder();
      for (int i = 0; i < 8; i++) {
        eight.append("seek if above ").append(i).append(";");
      }
      fault(1, eight.toString(), 0, -1);
      fault(1, eight + "seek if cloth;", 4, 128);
      BrassBalls b = busy(PLAIN);
      for (int loan = 1; loan <= 8; loan++) {
        b.pledge(0, 0, loan);
      }
      due("8", tell(b, 1, eight.toString()), 8);
      for (int i = 0; i < 8; i++) {
        due("above " + i, b.fits(i, -1), 8 - i);
      }
      due("no 9th", b.fits(8, -1), -2);
      tell(b, 1, eight + "seek if cloth;");
      due("the 8 stay", b.count(6), 8);
      due("fewer", tell(b, 1, "seek if cloth;"), 1);
      due("no second", b.fits(1, -1), -2);
    });
  }

  /** What comes of one byte more: a blank, a small letter, a digit, ;, (, ), each with its FAULT and place; all others are no TOKEN. */
  private static void byteMore(int what, String ahead, String behind, int[] faults, int[] places) {
    for (int c = 0; c < 256; c++) {
      int sort = 6;
      if (c == 10 || c == 32) {
        sort = 0;
      } else if (c >= 'a' && c <= 'z') {
        sort = 1;
      } else if (c >= '0' && c <= '9') {
        sort = 2;
      } else if (";()".indexOf(c) >= 0) {
        sort = 3 + ";()".indexOf(c);
      }
      fault(what, ahead + (char) c + behind, sort == 6 ? 1 : faults[sort], sort == 6 ? ahead.length() : places[sort]);
    }
  }

  /** Each letter in turn is another one: its word can't stand there. */
  private static void otherLetters(int what, String text) {
    fault(what, text, 0, -1);
    for (int i = 0; i < text.length(); i++) {
      char c = text.charAt(i);
      if (Character.isLetter(c)) {
        int place = i;
        while (place > 0 && Character.isLetter(text.charAt(place - 1))) {
          place--;
        }
        fault(what, text.substring(0, i) + (char) (c + 1) + text.substring(i + 1), 2, place);
        fault(what, text.substring(0, i) + (char) (c - 32) + text.substring(i + 1), i == place ? 1 : 2, place);
      }
    }
  }

  private static void tokens() {
    edge("between them blanks (10, 32): words (small letters), N (1 to 3 digits), the signs ; ( )", () -> {
      byteMore(0, "year", "5;", new int[] {0, 2, 0, 2, 2, 2}, new int[] {-1, 0, -1, 4, 4, 4});
      byteMore(0, "", "year 5;", new int[] {0, 2, 2, 2, 2, 2}, new int[] {-1, 0, 0, 0, 0, 0});
      byteMore(0, "year 50", ";", new int[] {0, 2, 3, 2, 2, 2}, new int[] {-1, 7, 5, 8, 7, 7});
      byteMore(0, "year 50;", "", new int[] {0, 2, 2, 2, 2, 2}, new int[] {-1, 8, 8, 8, 8, 8});
      byteMore(1, "seek if cloth", ";", new int[] {0, 2, 2, 2, 2, 2}, new int[] {-1, 8, 13, 14, 13, 13});
      byteMore(1, "seek if ", "by 1;", new int[] {0, 2, 2, 2, 2, 2}, new int[] {-1, 8, 8, 8, 13, 8});
      byteMore(1, "seek if (above 1", ");", new int[] {0, 2, 0, 2, 2, 2}, new int[] {-1, 16, -1, 16, 16, 17});
    });
    edge("TOKENS of both, as long as they go on", () -> {
      fault(0, "yearyear 5;", 2, 0);
      fault(0, "yea r 5;", 2, 0);
      fault(0, "year 1 0;", 2, 7);
      fault(0, "year 10 4;", 2, 8);
      fault(0, "year 104;", 0, -1);
      fault(0, "upto 1 taken 1 per 1;", 2, 7);
      fault(0, "upto 1 take 1 percent 1;", 2, 14);
      fault(1, "seekif cloth;", 2, 0);
      fault(1, "seek ifcloth;", 2, 5);
      fault(1, "seek if notcloth;", 2, 8);
      fault(1, "seek if not cloth or(by 1)and(cloth);", 0, -1);
    });
    edge("words (small letters)", () -> {
      otherLetters(0, "upto 1 take 1 per 1;least 1;ticket 1;sworn 1;year 1;moth 1;hold 1;");
      otherLetters(1, "seek if not cloth and kind 1 or size 1 and above 1 and since 1 and by 1;");
    });
    edge("1 no TOKEN begins so (4 digits and more: at their first)", () -> {
      fault(0, "year 1;least 0001;", 1, 13);
      fault(0, "least 001;", 0, -1);
      fault(0, "least 1000;", 1, 6);
      fault(0, "least 12345678901234567890;", 1, 6);
      fault(0, "1000", 1, 0);
      fault(1, "seek if by 0001;", 1, 11);
      fault(0, "#", 1, 0);
      fault(0, "\u0000", 1, 0);
      fault(0, "\u00ff", 1, 0);
      fault(0, "YEAR 5;", 1, 0);
    });
    edge("2 it can't stand there (the end: the text's length)", () -> {
      int[] places = {-1, 0, 0, 0, 4, 5, 6, 7, 7, 7, 7, 11, 12, 13, 14, 14, 14, 17, 18, 19, -1};
      for (int n = 0; n <= 20; n++) {
        fault(0, "upto 5 take 1 per 7;".substring(0, n), places[n] < 0 ? 0 : 2, places[n]);
      }
      int[] of = {-1, 0, 0, 0, 4, 5, 5, 7, 8, 8, 8, 11, 12, 13, 13, 15, 16, 17, 18, -1};
      for (int n = 0; n <= 19; n++) {
        fault(1, "seek if not (by 1);".substring(0, n), of[n] < 0 ? 0 : 2, of[n]);
      }
      fault(0, "year 5 \n \n", 2, 10);
      BrassBalls b = new BrassBalls();
      feed(b, "year 5;");
      due("the text ends ahead of what is fed", b.text(0, 6), -12);
      due("its length", b.fault(1), 6);
    });
    edge("3 an N out of its bounds", () -> {
      fault(0, "year 0;", 3, 5);
      fault(0, "hold 000;", 3, 5);
      fault(0, "upto 5 take 100 per 0;", 3, 12);
      fault(1, "seek if cloth and (size 0 or size 10);", 3, 24);
      fault(1, "seek if cloth and (size 1 or size 10);", 3, 34);
    });
    edge("4 the first TOKEN of what is told a second time, of a 9th upto, LOOK", () -> {
      String eight = times(8, "seek if cloth;");
      fault(1, eight + "seek", 4, 112);
      fault(1, eight + "\nseek if cloth;", 4, 113);
      fault(1, eight + "  ", 0, -1);
      fault(0, "hold 5;\n hold", 4, 9);
    });
  }

  private static void faults() {
    edge("5 the 9th not or ( that are open around one another", () -> {
      String eight = times(8, "(") + "cloth" + times(8, ")");
      fault(1, "seek if " + eight + ";", 0, -1);
      fault(1, "seek if " + eight + " and " + eight + " or " + eight + ";", 0, -1);
      fault(1, "seek if (" + eight + ");", 5, 16);
      fault(1, "seek if not " + eight + ";", 5, 19);
      fault(1, "seek if " + times(8, "not ") + "cloth and " + times(8, "not ") + "by 1;", 0, -1);
      fault(1, "seek if " + times(9, "not ") + "cloth;", 5, 40);
      fault(1, "seek if (not(not(not(not cloth))));", 0, -1);
      fault(1, "seek if (not(not(not(not(cloth)))));", 5, 24);
      fault(1, "seek if (not cloth and " + times(7, "(") + "cloth" + times(8, ")") + ";", 0, -1);
      fault(1, "seek if (not cloth and " + times(8, "(") + "cloth" + times(9, ")") + ";", 5, 30);
      fault(1, "seek if " + eight + ";seek if " + eight + ";", 0, -1);
    });
    edge("FAULTS, the first along the text, of one TOKEN the least kind", () -> {
      fault(0, "year 0;#", 3, 5);
      fault(0, "#year 0;", 1, 0);
      fault(0, "year year 0;", 2, 5);
      fault(0, "year 5;year 0;#", 4, 7);
      fault(0, "year 1000;", 1, 5);
      fault(0, "year 5 1000;", 1, 7);
      fault(0, "year 5 999;", 2, 7);
      fault(0, "year 5 year 5;", 2, 7);
      fault(1, "seek if ((((((((cloth(", 2, 21);
      fault(1, "seek if (((((((((#", 5, 16);
      fault(1, "seek if ((((((((#", 1, 16);
      fault(1, times(8, "seek if cloth;").substring(0, 111) + " seek", 2, 112);
      fault(0, times(8, "upto 1 take 1 per 1;"), 3, 25);
    });
  }

  private static void interest() {
    edge("1 and the WEEKS between (the difference) by 2 (cut)", () -> {
      BrassBalls b = shop(PENNIES);
      int[][] halves = {{0, 1}, {1, 1}, {2, 2}, {3, 2}, {4, 3}, {5, 3}, {299, 150}, {300, 151}};
      for (int[] h : halves) {
        due(h[0] + " WEEKS", b.interest(0, 1, 0, h[0]), h[1]);
        due(h[0] + " WEEKS up to the last", b.interest(0, 1, 300 - h[0], 300), h[1]);
      }
    });
    edge("of the first upto that is the loan (pence) or more", () -> {
      BrassBalls b = shop("upto 10 take 1 per 10;upto 20 take 5 per 10;upto 30 take 7 per 30;");
      int[][] due = {{1, 1}, {9, 1}, {10, 1}, {11, 10}, {20, 10}, {21, 7}, {30, 7}, {31, -5}, {999, -5}};
      for (int[] d : due) {
        due("of " + d[0], b.interest(0, d[0], 0, 0), d[1]);
      }
    });
    edge("times how many per there are in the loan, the last one begun counts whole", () -> {
      BrassBalls b = shop("upto 99 take 3 per 7;");
      int[][] due = {{1, 3}, {6, 3}, {7, 3}, {8, 6}, {14, 6}, {15, 9}, {98, 42}, {99, 45}};
      for (int[] d : due) {
        due("of " + d[0], b.interest(0, d[0], 0, 0), d[1]);
      }
    });
    edge("least at least", () -> {
      BrassBalls b = shop("upto 99 take 1 per 1;least 5;");
      due("less", b.interest(0, 4, 0, 0), 5);
      due("as much", b.interest(0, 5, 0, 0), 5);
      due("more", b.interest(0, 6, 0, 0), 6);
      due("of all HALVES together", b.interest(0, 2, 0, 2), 5);
      due("of all HALVES together", b.interest(0, 3, 0, 2), 6);
      due("of nothing", shop("upto 99 take 0 per 1;least 5;").interest(0, 99, 0, 300), 5);
    });
    edge("without such an upto it can't be lent (INTEREST of a PLEDGE that there is already is least then)", () -> {
      BrassBalls b = busy(PLAIN);
      b.pledge(0, 0, 20);
      b.weeks(4);
      due("6", b.held(148, 2), 46);
      tell(b, 0, "upto 19 take 9 per 1;least 7;");
      due("can't be lent", b.pledge(0, 0, 20), -5);
      due("can't be lent", b.interest(0, 20, 0, 0), -5);
      due("least", b.held(148, 2), 47);
      b.weeks(50);
      due("least whenever", b.held(148, 2), 47);
      tell(b, 0, "upto 20 take 1 per 20;least 7;");
      due("28 again", b.held(148, 2), 68);
      b.text(0, 0);
      due("0 without a LAW", b.held(148, 2), 40);
      due("nothing is paid for it", b.renew(148), 279);
      due("nothing is paid for it", b.renewals(0, 1), 0);
    });
  }

  // ==== 2. PLEDGES, TICKETS

  private static void pledges() {
    edge("PLEDGES, at most 60, numbered as they come", () -> {
      BrassBalls b = busy(PLAIN);
      for (int i = 0; i < 60; i++) {
        due("number", b.held(b.pledge(i % 2, 0, 1 + i), 0), i);
      }
      due("the 61st", b.pledge(0, 0, 1), -4);
      due("how many", b.count(2), 60);
      due("the last", b.of(59, 2), 60);
      due("none behind it", b.of(60, 2), -1000);
      due("fetched ones count", b.fetch(148), 3);
      due("the 61st", b.pledge(0, 0, 1), -4);
      due("HERE", b.count(9), 59);
    });
    edge("a loan (1 to 999 pence), the WEEK from which INTEREST counts", () -> {
      BrassBalls b = busy(PENNIES);
      due("0", b.pledge(0, 0, 0), -3);
      due("1000", b.pledge(0, 0, 1000), -3);
      due("1", b.pledge(0, 0, 1), 148);
      due("999", b.pledge(0, 0, 999), 279);
      due("1 and 1", b.held(148, 2), 3);
      due("999 and 999", b.held(279, 2), 2997);
      due("the PURSE", b.purse(0), 2200);
    });
    edge("a RACK (NONE at first, and once it isn't HERE)", () -> {
      BrassBalls b = busy(PLAIN + "year 1;");
      b.rack(5, 0);
      b.pledge(0, 0, 5);
      b.pledge(1, 0, 5);
      due("at first", b.of(0, 4), -1);
      b.put(0, 0);
      b.put(1, 0);
      due("put", b.of(0, 4), 0);
      due("full", b.count(20), 0);
      b.fetch(148);
      due("FETCHED", b.of(0, 4), -1);
      due("room again", b.count(20), 3);
      b.weeks(1);
      b.sale(1, 0);
      due("SOLD", b.of(1, 4), -1);
      due("room again", b.count(20), 5);
    });
    edge("HERE, till it is FETCHED, SOLD", () -> {
      BrassBalls b = busy(PLAIN + "year 1;");
      b.pledge(0, 0, 5);
      b.pledge(0, 0, 5);
      due("HERE", b.count(9), 2);
      b.weeks(1);
      b.fetch(148);
      b.sale(1, 5);
      due("FETCHED", b.of(0, 5), 1);
      due("SOLD", b.of(1, 5), 2);
      due("HERE", b.count(9), 0);
      due("the SOLD one can't be FETCHED", b.fetch(279), -2);
      due("the FETCHED one can't be SOLD", b.sale(0, 5), -1000000);
    });
    edge("DUE: twice the loan and INTEREST up to now.", () -> {
      BrassBalls b = pledged(PLAIN);
      due("now", b.held(148, 2), 11);
      b.weeks(1);
      due("a WEEK later", b.held(148, 2), 11);
      b.weeks(1);
      due("two WEEKS later", b.held(148, 2), 12);
    });
  }

  private static void numbers() {
    edge("TICKETS, at most 150: serials from 1 on", () -> {
      BrassBalls b = busy(PLAIN);
      due("the first", b.pledge(0, 0, 5), 148);
      for (int serial = 2; serial <= 150; serial++) {
        due("serial " + serial, b.swear(0), number(serial));
      }
      due("how many", b.count(3), 150);
      due("the 151st", b.swear(0), -4);
      due("the 151st", b.renew(number(150)), -4);
      due("the 151st", b.pledge(0, 0, 5), -4);
      due("the last LIVES", b.ticket(number(150)), 0);
      due("FETCHED by it", b.fetch(number(150)), 11);
      due("DEAD ones count", b.pledge(0, 0, 5), -4);
    });
    edge("the number is 100 times the serial and (31 times the serial and 17) modulo 97", () -> {
      BrassBalls b = busy(PLAIN);
      b.pledge(0, 0, 5);
      int[] told = new int[151];
      for (int serial = 2; serial <= 150; serial++) {
        told[serial] = b.swear(0);
      }
      int[][] due = {{2, 279}, {3, 313}, {6, 609}, {37, 3700}, {62, 6296}, {97, 9717}, {100, 10013}, {150, 15011}};
      for (int[] d : due) {
        due("serial " + d[0], told[d[0]], d[1]);
      }
    });
    edge("2 its last two figures are wrong (or it has no serial from 1 on)", () -> {
      BrassBalls b = pledged(PLAIN);
      for (int figures = 0; figures < 100; figures++) {
        due("serial 1", b.ticket(100 + figures), figures == 48 ? 0 : 2);
        due("no serial", b.ticket(figures), 2);
        due("below 0", b.ticket(-100 - figures), 2);
      }
      for (int number : new int[] {-1, -17, MIN, MIN + 48, MIN + 148}) {
        due("below 0", b.ticket(number), 2);
      }
    });
    edge("3 there was never such a one", () -> {
      BrassBalls b = pledged(PLAIN);
      due("the next", b.ticket(279), 3);
      due("all TICKETS and one", b.ticket(number(151)), 3);
      due("serial 21474835", b.ticket(2147483500 + (int) ((31L * 21474835 + 17) % 97)), 3);
      int figures = (int) ((31L * 21474836 + 17) % 97);
      for (int last = 0; last <= 47; last++) {
        due("the greatest serial", b.ticket(2147483600 + last), last == figures ? 3 : 2);
      }
      due("once it is there", b.swear(0), 279);
      due("once it is there", b.ticket(279), 0);
      due("and LIVES, till it is DEAD", b.ticket(148), 1);
      b.fetch(279);
      due("DEAD for ever", b.ticket(279), 1);
    });
  }

  /** A PERSON whose PURSE has a loan of 10 pence and so many half pence more. */
  private static BrassBalls poor(int more) {
    BrassBalls b = busy("upto 10 take 0 per 1;" + (more < 0 ? "ticket " + -more + ";" : ""));
    b.person(0, 0, 0, Math.max(0, more / 2));
    b.pledge(0, 2, 10);
    return b;
  }

  private static void purses() {
    edge("to the PURSE comes twice the loan less ticket (it may go below 0)", () -> {
      BrassBalls b = busy(PLAIN + "ticket 20;");
      b.person(0, 0, 0, 0);
      b.pledge(0, 2, 10);
      due("just nothing", b.purse(2), 0);
      b.pledge(0, 2, 9);
      due("below 0", b.purse(2), -2);
      b.pledge(0, 2, 1);
      due("more below 0", b.purse(2), -20);
    });
    edge("its holder pays DUE of the PURSE (it must have so much)", () -> {
      BrassBalls b = poor(0);
      tell(b, 0, "upto 10 take 1 per 10;");
      due("21 of 20", b.fetch(148), -8);
      due("HERE still", b.of(0, 5), 0);
      tell(b, 0, "upto 10 take 0 per 10;");
      due("20 of 20", b.fetch(148), 20);
      due("nothing left", b.purse(2), 0);
      BrassBalls c = poor(-1);
      due("20 of 19", c.fetch(148), -8);
      c.sell(148, 1, 0);
      due("the holder pays", c.fetch(148), 20);
      due("the holder pays", c.purse(1), 180);
      due("not whose it was", c.purse(2), 19);
    });
    edge("INTEREST up to now and ticket are paid of the holder's PURSE (likewise)", () -> {
      BrassBalls b = poor(0);
      tell(b, 0, "upto 10 take 4 per 2;ticket 1;");
      due("21 of 20", b.renew(148), -8);
      due("LIVES still", b.ticket(148), 0);
      due("never RENEWED", b.renewals(0, 0), 0);
      tell(b, 0, "upto 10 take 3 per 2;ticket 5;");
      due("20 of 20", b.renew(148), 279);
      due("nothing left", b.purse(2), 0);
      tell(b, 0, "upto 10 take 0 per 1;");
      due("0 of 0", b.renew(279), 313);
      tell(b, 0, "upto 10 take 0 per 1;ticket 1;");
      due("1 of 0", b.renew(313), -8);
      b.pledge(0, 2, 1);
      tell(b, 0, "upto 10 take 0 per 1;ticket 20;");
      b.pledge(0, 2, 1);
      tell(b, 0, "upto 10 take 0 per 1;");
      due("0 of what is below 0", b.renew(313), -8);
    });
    edge("whose the PLEDGE is pays sworn; all its TICKETS are DEAD", () -> {
      BrassBalls b = poor(0);
      b.sell(148, 1, 0);
      tell(b, 0, "sworn 21;");
      due("21 of 20", b.swear(0), -8);
      due("LIVES still", b.ticket(148), 0);
      tell(b, 0, "sworn 20;");
      due("20 of 20", b.swear(0), 279);
      due("nothing left", b.purse(2), 0);
      due("DEAD", b.ticket(148), 1);
      due("held by whose it is", b.held(279, 1), 2);
      b.text(0, 0);
      due("0 of 0", b.swear(0), 313);
    });
    edge("who pays a price (pence) to the one who held it, both by PURSE (it must have so much)", () -> {
      BrassBalls b = poor(0);
      b.pledge(0, 0, 5);
      due("22 of 20", b.sell(279, 2, 11), -8);
      due("held by the same", b.held(279, 1), 0);
      due("20 of 20", b.sell(279, 2, 10), 0);
      due("nothing left", b.purse(2), 0);
      due("comes to the other", b.purse(0), 210 + 20);
      due("0 of 0", b.sell(148, 0, 0), 0);
      due("for nothing to who has nothing", b.sell(148, 2, 0), 0);
      due("2 of 0", b.sell(148, 0, 0), 0);
      due("2 of 0", b.sell(148, 2, 1), -8);
      due("the price 999", b.sell(148, 2, 999), -8);
      BrassBalls c = busy(PLAIN);
      c.person(0, 0, 0, 999);
      c.pledge(0, 0, 5);
      due("999 pence", c.sell(148, 2, 999), 0);
      due("nothing left", c.purse(2), 0);
      due("1998 and more", c.purse(0), 210 + 1998);
    });
  }

  private static void holding() {
    edge("are not FETCHED nor SOLD for hold WEEKS from that WEEK on (not that many behind it any more", () -> {
      BrassBalls b = busy(PLAIN + "hold 3;year 1;");
      tell(b, 1, "seek if cloth;");
      b.weeks(5);
      b.pledge(0, 0, 5);
      b.pledge(0, 0, 6);
      b.pledge(1, 0, 6);
      due("hold", b.hold(0), 2);
      for (int week = 5; week < 8; week++) {
        due("HELD in WEEK " + week, b.of(0, 6), 1);
        due("not HELD", b.of(2, 6), 0);
        due("not FETCHED", b.fetch(148), -5);
        due("not SOLD", b.sale(1, 5), -1000000);
        b.weeks(1);
      }
      due("not HELD any more", b.of(0, 6), 0);
      due("SOLD", b.sale(1, 5), -4);
      due("FETCHED", b.fetch(148), 12);
    });
    edge("of several times the latest end counts", () -> {
      BrassBalls b = busy(PLAIN + "hold 9;");
      tell(b, 1, "seek if cloth;seek if by 0;");
      b.pledge(0, 0, 5);
      b.hold(0);
      b.weeks(2);
      tell(b, 0, PLAIN + "hold 3;");
      b.hold(1);
      b.weeks(6);
      due("to WEEK 8", b.of(0, 6), 1);
      b.hold(1);
      b.weeks(1);
      due("to WEEK 10", b.of(0, 6), 1);
      b.weeks(1);
      due("to WEEK 10", b.of(0, 6), 1);
      b.weeks(1);
      due("not in WEEK 11", b.of(0, 6), 0);
      due("again", b.hold(0), 1);
      due("HELD", b.of(0, 6), 1);
    });
    edge("a PLEDGE that is HERE and for which year WEEKS or more have gone since its WEEK", () -> {
      BrassBalls b = busy(PLAIN + "year 4;");
      b.pledge(0, 0, 5);
      b.pledge(0, 0, 5);
      b.pledge(0, 0, 5);
      b.weeks(3);
      due("3 WEEKS", b.passed(-1), 0);
      b.renew(148);
      b.weeks(1);
      due("4 WEEKS, but for the RENEWED one", b.passed(-1), 2);
      b.fetch(279);
      due("HERE", b.passed(-1), 1);
      due("HERE", b.passed(0), 2);
      b.weeks(2);
      due("3 WEEKS from RENEWING", b.passed(0), 2);
      b.weeks(1);
      due("4 WEEKS from RENEWING", b.passed(0), 0);
      due("not so many", b.passed(2), -1);
    });
  }

  private static void sales() {
    edge("SALE of one that is PASSED (and not HELD) at a price (0 to 9999 pence)", () -> {
      BrassBalls b = busy(PLAIN + "year 4;");
      b.pledge(0, 0, 20);
      b.pledge(0, 0, 20);
      b.weeks(4);
      due("-1", b.sale(0, -1), -1000000);
      due("10000", b.sale(0, 10000), -1000000);
      due("0", b.sale(0, 0), -46);
      due("9999", b.sale(1, 9999), 19998 - 46);
      due("OVER of 0", b.over(0), 0);
      due("OVER of 9999", b.over(1), 19952);
    });
    edge("OVER: twice the price less DUE (0 at least)", () -> {
      int[] price = {0, 19, 20, 21, 22, 23, 24, 30};
      int[] met = {0, 0, 0, 2, 4, 6, 6, 6};
      for (int i = 0; i < price.length; i++) {
        BrassBalls b = busy(PLAIN + "year 4;");
        b.pledge(0, 0, 20);
        b.weeks(4);
        due("OVER less SHORT of 46", b.sale(0, price[i]), 2 * price[i] - 46);
        due("OVER of 46", b.over(0), price[i] > 23 ? 2 * price[i] - 46 : 0);
        due("the PURSE", b.purse(0), 240 + (price[i] > 23 ? 2 * price[i] - 46 : 0));
        due("INTEREST met", b.book(4, 1), met[i]);
        due("back, DUE at most", b.worst(5, 1), 40 - Math.min(2 * price[i], 46));
      }
    });
    edge("which is whose it was for 52 WEEKS: asked for, it comes to the PURSE", () -> {
      for (int weeks = 51; weeks <= 53; weeks++) {
        BrassBalls b = busy(PLAIN + "year 4;");
        b.pledge(0, 0, 20);
        b.pledge(0, 0, 20);
        b.sell(148, 1, 0);
        b.weeks(4);
        b.sale(0, 30);
        b.sale(1, 30);
        due("at once", b.over(1), 14);
        later(b, weeks);
        due(weeks + " WEEKS", b.over(0), weeks < 52 ? 14 : -5);
        due(weeks + " WEEKS, asked for before", b.over(1), weeks < 52 ? 0 : -5);
        due("not the holder's", b.purse(1), 200);
        due("whose it was", b.purse(0), 280 + 14 + (weeks < 52 ? 14 : 0));
      }
    });
    edge("SHORT: DUE less twice the price (0 at least)", () -> {
      BrassBalls b = busy(PLAIN + "year 4;");
      b.pledge(0, 0, 20);
      b.pledge(0, 0, 20);
      b.weeks(4);
      due("SHORT by 2", b.sale(0, 22), -2);
      due("none is asked for it", b.over(0), 0);
      due("none is asked for it", b.purse(0), 280);
      due("neither OVER nor SHORT", b.sale(1, 23), 0);
    });
    edge("less moth hundredths for each 10 WEEKS since its WEEK (0 hundredths at least), cut", () -> {
      BrassBalls b = busy(PLAIN + "moth 7;");
      b.kind(1, 999, 999, 0, true);
      b.pledge(0, 0, 5);
      b.pledge(2, 0, 5);
      int[][] due = {{0, 10, 14, 999}, {9, 10, 14, 999}, {10, 9, 13, 929}, {19, 9, 13, 929}, {20, 8, 12, 859}, {139, 0, 1, 89}, {140, 0, 0, 19},
          {149, 0, 0, 19}, {150, 0, 0, 0}, {300, 0, 0, 0}};
      int week = 0;
      for (int[] d : due) {
        later(b, d[0] - week);
        week = d[0];
        due("LOW in WEEK " + week, b.of(0, 7), d[1]);
        due("HIGH in WEEK " + week, b.of(0, 8), d[2]);
        due("999 in WEEK " + week, b.of(1, 7), d[3]);
      }
      b.renew(148);
      due("anew by RENEWING", b.of(0, 7), 10);
    });
  }

  // ==== 3. what to lend, racks, lives, lots, looks, the other shop, books, scribes, suits, trips, lists

  private static void lending() {
    edge("LEND on a KIND by BACK (0 to 100 of a hundred come back) behind so many HALVES (1 to 52)", () -> {
      BrassBalls b = busy(PLAIN);
      due("BACK 0", b.gained(0, 5, 0, 1), 100000);
      due("BACK 0", b.gained(0, 5, 0, 52), 100L * 1000 * (20 + 22 + 24 + 26 + 28 - 50) / 5);
      due("BACK 100, 1", b.gained(0, 5, 100, 1), 100000);
      due("BACK 100, 52", b.gained(0, 5, 100, 52), 5200000);
      for (int back : new int[] {-1, 101}) {
        due("BACK", b.lend(0, back, 1), -3);
        due("BACK", b.gained(0, 5, back, 1), -3);
      }
      for (int halves : new int[] {0, 53}) {
        due("HALVES", b.lend(0, 50, halves), -3);
        due("HALVES", b.gained(0, 5, 50, halves), -3);
      }
    });
    edge("the greatest loan (pence, up to the greatest upto, 1 at least)", () -> {
      for (int upto : new int[] {1, 2, 998, 999}) {
        BrassBalls b = busy("upto " + upto + " take 1 per 1;");
        due("upto " + upto, b.lend(0, 100, 1), upto);
      }
      BrassBalls b = busy("upto 10 take 0 per 1;upto 20 take 99 per 1;");
      b.kind(1, 5, 5, 50, false);
      due("10 can't be, 20 can", b.gained(2, 10, 50, 1) < 0 ? 1 : 0, 1);
      due("the greatest", b.lend(2, 50, 1), 20);
      due("1 is too much", busy("upto 10 take 0 per 1;").lend(1, 99, 1), 0);
      BrassBalls c = busy("upto 10 take 0 per 1;");
      c.kind(1, 1, 1, 0, false);
      due("1 just can be", c.lend(2, 0, 1), 1);
    });
    edge("by which what is GAINED on a hundred is not below 0", () -> {
      BrassBalls b = busy("upto 99 take 0 per 1;");
      b.kind(1, 5, 5, 0, false);
      due("just 0", b.gained(2, 5, 0, 1), 0);
      due("just below", b.gained(2, 6, 0, 1), -200000);
      due("5", b.lend(2, 0, 1), 5);
      b.kind(1, 1, 999, 0, false);
      due("1 of 999 pence is below 0 by a fifth of a half penny", b.gained(3, 2, 0, 1), -200);
      due("also that is below 0", b.lend(3, 0, 1), 1);
      due("nor cut to 0: 1 of a hundred by 2 of 999", b.gained(3, 2, 99, 1), -2);
      due("nor cut to 0", b.lend(3, 99, 1), 1);
    });
    edge("twice the price, but no more than twice the loan and INTEREST (what is OVER is not the shop's); of GLASS nothing", () -> {
      for (int take = 0; take < 4; take++) {
        BrassBalls b = shop("upto 9 take " + take + " per 9;");
        b.kind(1, 10, 10, 0, false);
        b.kind(1, 10, 10, 25, false);
        due("INTEREST " + take, b.gained(0, 9, 0, 1), 100000L * Math.min(take, 2));
        due("a quarter is GLASS, INTEREST " + take, b.gained(1, 9, 0, 1), 75000L * (18 + Math.min(take, 2)) - 1800000);
      }
    });
    edge("(Exact: fractions.)", () -> {
      BrassBalls b = shop("upto 68 take 1 per 68;");
      b.kind(1, 999, 999, 73, false);
      // 99 and 27 hundredths of 137 less 136: a hundredth below 0
      due("a hundredth below 0", b.gained(0, 68, 99, 1), -10);
      due("the loan below it", b.gained(0, 67, 99, 1), 1450);
      due("so that is lent", b.lend(0, 99, 1), 67);
    });
    edge("thousandths of half pence cut towards 0 (what it is times 1000)", () -> {
      BrassBalls b = shop("upto 99 take 1 per 99;");
      b.kind(1, 10, 12, 0, false);
      b.kind(1, 11, 13, 0, false);
      due("-1 of 3", b.gained(0, 11, 0, 1), -33333);
      due("2 of 3", b.gained(1, 11, 0, 1), 66666);
      due("-2 of 3 of one of a hundred", shopOfThirds().gained(0, 11, 99, 1), -666);
    });
    edge("LEND; 0: nothing", () -> {
      due("no LAW", busy("").lend(0, 100, 52), 0);
      due("no upto", busy("least 99;").lend(0, 100, 52), 0);
      due("too much GLASS", busy("upto 9 take 0 per 1;").lend(1, 0, 52), 0);
    });
  }

  /** Of 10, 11, 12 pence 22, no more, is lent and nothing taken. */
  private static BrassBalls shopOfThirds() {
    BrassBalls b = shop("upto 99 take 0 per 99;");
    b.kind(1, 10, 12, 0, false);
    return b;
  }

  private static void racks() {
    edge("RACKS, at most 10, numbered as they come: room for so much SIZE together (1 to 99), STEPS (0 to 99)", () -> {
      BrassBalls b = busy(PLAIN);
      int[][] bad = {{0, 5}, {100, 5}, {-1, 5}, {5, -1}, {5, 100}};
      for (int[] r : bad) {
        due(r[0] + " " + r[1], b.rack(r[0], r[1]), -3);
      }
      due("99 99", b.rack(99, 99), 0);
      due("1 0", b.rack(1, 0), 1);
      for (int i = 2; i < 10; i++) {
        due("rack", b.rack(5, i), i);
      }
      due("the 11th", b.rack(5, 5), -4);
      b.pledge(0, 0, 5);
      due("too small", b.put(0, 1), -5);
      due("99", b.put(0, 0), 96);
      due("99 STEPS", b.rush(0, 1), 198);
      due("the last", b.put(0, 9), 2);
      due("none behind it", b.put(0, 10), -2);
    });
    edge("a PLEDGE HERE lies on a RACK, if that has room for it", () -> {
      BrassBalls b = busy(PLAIN);
      b.rack(5, 0);
      b.rack(4, 0);
      b.rack(2, 0);
      for (int i = 0; i < 3; i++) {
        b.pledge(0, 0, 5);
      }
      b.pledge(1, 0, 5);
      due("3 of 5", b.put(0, 0), 2);
      due("3 of 2", b.put(1, 0), -5);
      due("2 of 2", b.put(3, 0), 0);
      due("2 of 0", b.put(3, 0), -5);
      due("3 of 4", b.put(1, 1), 1);
      due("2 of 1", b.put(3, 1), -5);
      due("where it was it still is", b.of(3, 4), 0);
      due("3 of 2", b.put(2, 2), -5);
      due("from one to another", b.put(3, 2), 0);
      due("its room is left there", b.count(20), 2);
    });
    edge("RUSH of some PLEDGES (bits of a set of 8 told in a row): STEPS of their RACKS together, each there and back", () -> {
      BrassBalls b = busy(PLAIN);
      b.rack(99, 3);
      b.rack(99, 0);
      for (int i = 0; i < 10; i++) {
        b.pledge(0, 0, 5);
        b.put(i, i == 4 ? 1 : 0);
      }
      due("none", b.rush(0, 0), 0);
      due("none from nowhere", b.rush(MAX, 0), 0);
      due("none from nowhere", b.rush(-5, 0), 0);
      due("the first", b.rush(0, 1), 6);
      due("the eighth", b.rush(0, 128), 6);
      due("of 0 STEPS", b.rush(0, 16), 0);
      due("all", b.rush(0, 255), 42);
      due("the last 8", b.rush(2, 255), 42);
      due("one too many", b.rush(3, 255), -5);
      due("without it", b.rush(3, 127), 36);
      due("256", b.rush(0, 256), -3);
      due("-1", b.rush(0, -1), -3);
    });
    edge("the first (up to 7) that are HERE and on no RACK", () -> {
      BrassBalls b = busy(PLAIN);
      b.rack(20, 3);
      b.rack(2, 0);
      row(b, 0, 0, 1, 2, 3, 4, 5, 6, 7);
      for (int i = 0; i < 8; i++) {
        b.pledge(1, 0, 5);
      }
      b.fetch(148);
      b.put(1, 0);
      due("6 there are", b.best(0, 7, -1), -5);
      due("6 there are, the last lies at the door", b.best(0, 6, -1), 45);
      b.pledge(1, 0, 5);
      due("7", b.best(0, 7, -1), 63);
      due("the heaviest lies at the door", b.best(0, 7, 6), 1);
      due("the others don't", b.best(0, 7, 5), 0);
      due("not so many", b.best(0, 7, 7), -1);
      due("1", b.best(0, 1, -1), 0);
      due("1", b.best(0, 1, 0), 1);
      due("0", b.best(0, 0, -1), -3);
      due("8", b.best(0, 8, -1), -3);
      b.row(0, 0, 40);
      due("more numbers than PLEDGES", b.best(0, 7, -1), 0);
      due("of like ones the lesser RACK", b.best(0, 7, 6), 0);
    });
    edge("-5: there are not n such PLEDGES", () -> {
      BrassBalls b = busy(PLAIN);
      due("no PLEDGES", b.best(0, 1, -1), -5);
      b.image(0);
      b.rack(99, 1);
      b.rack(99, 1);
      for (int i = 0; i < 60; i++) {
        b.pledge(1, 0, 5);
      }
      b.row(0, 0, 7);
      due("60 of 60", b.best(0, 7, -1), 0);
      for (int i = 0; i < 58; i++) {
        b.put(i, i % 2);
      }
      due("2 of 60", b.best(0, 2, -1), 0);
      due("2 of 60", b.best(0, 3, -1), -5);
      b.restore(0);
      due("none any more", b.best(0, 1, -1), -5);
      b.pledge(1, 0, 5);
      due("one", b.best(0, 2, -1), -5);
      due("one, no RACK", b.best(0, 1, -1), -1);
    });
    edge("of like ones the first, PLEDGE by PLEDGE, by the lesser RACK; all must find room", () -> {
      BrassBalls b = busy(PLAIN);
      b.rack(3, 4);
      b.rack(3, 4);
      b.pledge(1, 0, 5);
      b.pledge(1, 0, 5);
      row(b, 0, 0, 5, 5, 5);
      due("the first to the lesser", b.best(0, 2, 0), 0);
      due("the second where room is left", b.best(0, 2, 1), 1);
      b.pledge(1, 0, 5);
      due("no room", b.best(0, 3, -1), -1);
      due("no room", b.best(0, 3, 0), -1);
      b.rack(2, 99);
      due("just room", b.best(0, 3, -1), 5 * (4 + 4 + 99));
      due("the first to the lesser", b.best(0, 3, 0), 0);
      due("the third", b.best(0, 3, 2), 2);
      due("no RACKS", racksNone().best(0, 1, -1), -1);
    });
    edge("RACKS for all so that the sum of weight times STEPS is least", () -> {
      BrassBalls b = busy(PLAIN);
      int[] steps = {50, 40, 90, 10, 30, 95, 20, 60, 99, 5};
      for (int i = 0; i < 10; i++) {
        b.rack(2, steps[i]);
      }
      for (int i = 0; i < 7; i++) {
        b.pledge(1, 0, 5);
      }
      int[][] weights = {{3, 7, 1, 6, 2, 5, 4}, {1, 2, 3, 4, 5, 6, 7}, {7, 6, 5, 4, 3, 2, 1}};
      int[][] due = {{1, 9, 7, 3, 0, 6, 4}, {7, 0, 1, 4, 6, 3, 9}, {9, 3, 6, 4, 1, 0, 7}};
      for (int w = 0; w < 3; w++) {
        b.row(0, 0, 7);
        for (int i = 0; i < 7; i++) {
          b.write(0, i, weights[w][i]);
        }
        due("the heaviest to the fewest STEPS", b.best(0, 7, -1), 7 * 5 + 6 * 10 + 5 * 20 + 4 * 30 + 3 * 40 + 2 * 50 + 60);
        for (int i = 0; i < 7; i++) {
          due("PLEDGE " + i, b.best(0, 7, i), due[w][i]);
        }
      }
    });
    edge("BEST of so many PLEDGES", () -> {
      BrassBalls b = busy("upto 100 take 1 per 10;year 1;");
      b.kind(9, 1, 1, 0, false);
      b.rack(5, 1);
      b.pledge(1, 0, 5);
      b.put(0, 0);
      b.pledge(2, 0, 5);
      b.row(0, 0, 1);
      due("a RUSH of SIZE 2 ahead", b.rush(0, 1), 2);
      due("9 has no room", b.best(0, 1, -1), -1);
      due("one TRIP", b.trips(0, 1, 2), 2);
      due("9 has no room", b.best(0, 1, 0), -1);
    });
    edge("weights 0 to 99 of a ROW", () -> {
      BrassBalls b = busy(PLAIN);
      b.rack(99, 99);
      for (int i = 0; i < 7; i++) {
        b.pledge(1, 0, 5);
      }
      row(b, 0, 3, 99, 99, 99, 99, 99, 99, 99);
      due("the most there can be", b.best(0, 7, -1), 7 * 99 * 99);
      for (long weight : new long[] {100, -1, 1L << 32, Long.MIN_VALUE, Long.MAX_VALUE}) {
        b.write(0, 6, weight);
        due("weight " + weight, b.best(0, 7, -1), -3);
        due("not of those", b.best(0, 6, -1), 6 * 99 * 99);
      }
      b.write(0, 6, 0);
      due("0", b.best(0, 7, -1), 6 * 99 * 99);
    });
  }

  private static BrassBalls racksNone() {
    BrassBalls b = pledged(PLAIN);
    b.row(0, 0, 1);
    return b;
  }

  private static void lives() {
    edge("LIFE of a PERSON over so many WEEKS (1 to 104) with so much more at first (pence)", () -> {
      BrassBalls b = busy(PLAIN + "ticket 1;");
      b.person(0, 1, 0, 103);
      due("the 104th WEEK", b.life(2, 0, 1, 104, 0), 103);
      due("103 WEEKS", b.life(2, 0, 1, 103, 0), -1);
      due("one penny more", b.life(2, 0, 1, 104, 1), -1);
      b.person(0, 999, 0, 0);
      due("the first WEEK", b.life(3, 0, 1, 1, 0), 0);
      due("998 more and a suit of half a penny", b.life(3, 0, 1, 1, 998), 0);
      due("999 more", b.life(3, 0, 1, 1, 999), -1);
    });
    edge("if the suit is out and the PURSE is below 0, it goes to the shop", () -> {
      BrassBalls b = busy(PLAIN + "ticket 20;");
      b.person(0, 1, 0, 1);
      due("0 is not below 0: no ticket is paid yet", b.life(2, 0, 1, 9, 0), 1);
      b.person(0, 0, 0, 0);
      due("0 for ever", b.life(3, 0, 1, 104, 0), -1);
      tell(b, 0, PLAIN + "ticket 2;");
      b.person(0, 1, 0, 0);
      due("-2 and 4 - 2 are 0, then -2", b.life(4, 0, 2, 9, 0), 1);
      tell(b, 0, PLAIN + "ticket 3;");
      b.pledge(0, 3, 1);
      due("just below 0", b.purse(3), -1);
      tell(b, 0, PLAIN);
      due("it goes there", b.life(3, 0, 1, 104, 0), -1);
    });
    edge("It SINKS in the first WEEK behind which PURSE is below 0", () -> {
      BrassBalls b = busy(PLAIN);
      b.person(0, 1, 0, 0);
      due("0 behind the first WEEK, by the suit", b.life(2, 0, 1, 1, 0), -1);
      due("-2 behind the second", b.life(2, 0, 1, 2, 0), 1);
      due("the first is told", b.life(2, 0, 1, 104, 0), 1);
    });
    edge("the least more (0 to 999) by which it doesn't sink", () -> {
      BrassBalls b = busy(PLAIN);
      b.person(0, 999, 1, 0);
      b.person(0, 999, 2, 0);
      b.person(0, 0, 0, 0);
      due("999", b.needs(2, 0, 1, 1), 999);
      due("NONE: more than 999", b.needs(3, 0, 1, 1), -1);
      due("0", b.needs(4, 0, 1, 104), 0);
    });
    edge("in so many LOTS (1 to 10), each of some one behind the other, none empty", () -> {
      BrassBalls b = busy("upto 9 take 1 per 1;year 1;moth 20;");
      for (int i = 0; i < 5; i++) {
        b.pledge(0, 0, 5);
      }
      b.weeks(50);
      due("nothing is left of the cloth", b.lots(1, -1), 0);
      for (int n = 1; n <= 5; n++) {
        due("n " + n, b.lots(n, -1), 0);
        due("the first is as short as can be", b.lots(n, 0), n == 1 ? 5 : 1);
        due("the last has the others", b.lots(n, n - 1), 6 - n);
        due("not so many LOTS", b.lots(n, n), -1);
      }
      due("fewer PLEDGES", b.lots(6, -1), -5);
      due("0", b.lots(0, -1), -3);
      due("11", b.lots(11, -1), -3);
    });
    edge("the first (up to 10) PLEDGES that are PASSED", () -> {
      BrassBalls b = busy("upto 9 take 1 per 1;year 1;");
      b.kind(1, 999, 999, 0, false);
      for (int i = 0; i < 9; i++) {
        b.pledge(0, 0, 5);
      }
      b.weeks(1);
      due("9", b.lots(10, -1), -5);
      due("9", b.lots(9, -1), 10);
      b.pledge(0, 0, 5);
      b.pledge(2, 0, 5);
      due("not PASSED", b.lots(10, -1), -5);
      b.weeks(1);
      due("10, not the 11th", b.lots(10, -1), 10);
      due("10, not the 11th", b.lots(1, -1), 100);
      due("10, not the 11th", b.lots(1, 0), 10);
      b.sale(0, 1);
      due("11 less one", b.lots(10, -1), 999);
      b.sale(10, 1);
      due("and less another", b.lots(10, -1), -5);
      due("9 again", b.lots(9, -1), 10);
      due("9 again", b.lots(2, 0), 4);
    });
    edge("of like ones the first LOT is as short as can be, and so on", () -> {
      BrassBalls b = busy("upto 9 take 1 per 1;year 1;");
      int[] low = {1, 1, 5, 1, 1};
      for (int i = 0; i < 5; i++) {
        b.kind(1, low[i], low[i], 0, false);
        b.pledge(2 + i, 0, 5);
      }
      b.weeks(1);
      // 1 | 1 | 5 | 1 1
      int[] due = {1, 1, 1, 2};
      due("four", b.lots(4, -1), 5);
      for (int i = 0; i < 4; i++) {
        due("LOT " + i, b.lots(4, i), due[i]);
      }
      // 1 1 | 5 | 1 1: 1 goes ahead of 1 5, which is 6
      due("three", b.lots(3, -1), 5);
      due("the first", b.lots(3, 0), 2);
      due("the second", b.lots(3, 1), 1);
      // 1 1 | 5 1 1 and 1 1 5 | 1 1 have 7
      due("two", b.lots(2, -1), 7);
      due("the first", b.lots(2, 0), 2);
    });
  }

  private static void looks() {
    edge("above: its loan is more; since: its WEEK is that or later", () -> {
      BrassBalls b = busy(PLAIN);
      b.weeks(3);
      b.pledge(0, 0, 5);
      tell(b, 1, "seek if above 4;seek if above 5;seek if above 6;seek if since 2;seek if since 3;seek if since 4;");
      int[] due = {1, 0, 0, 1, 1, 0};
      for (int i = 0; i < 6; i++) {
        due("LOOK " + i, b.fits(i, -1), due[i]);
      }
      b.weeks(1);
      b.renew(148);
      due("its WEEK by RENEWING", b.fits(5, -1), 1);
    });
    edge("THE OTHER SHOP has a LAW that was kept (none at first)", () -> {
      BrassBalls b = pledged(PLAIN);
      due("none", b.runs(0, 0), -5);
      due("none", b.interest(1, 5, 0, 0), -5);
      tell(b, 0, "upto 4 take 9 per 1;least 2;");
      due("kept", b.other(), 0);
      tell(b, 0, PLAIN);
      due("nothing runs to where it can't be lent", b.runs(0, 0), 0);
      due("its own upto", b.interest(1, 4, 0, 0), 36);
      due("its own upto", b.interest(1, 5, 0, 0), -5);
    });
    edge("those whose INTEREST up to now would be less there (that can be lent there)", () -> {
      int[] runs = {1, 0, 0};
      for (int take = 1; take <= 3; take++) {
        BrassBalls b = shop("upto 10 take " + take + " per 10;");
        b.kind(1, 1, 1, 0, false);
        b.person(0, 0, 0, 0);
        b.other();
        tell(b, 0, "upto 20 take 2 per 10;");
        b.pledge(0, 0, 10);
        b.pledge(0, 0, 11);
        due("RUNS", b.runs(0, 0), runs[take - 1]);
        due("SAVED", b.runs(0, 1), runs[take - 1]);
        b.weeks(2);
        due("SAVED later", b.runs(0, 1), 2 * runs[take - 1]);
      }
    });
    edge("the most PLEDGES of its in a row, numbers rising", () -> {
      BrassBalls b = busy(PLAIN);
      b.pledge(0, 0, 5);
      b.pledge(0, 0, 5);
      due("not FETCHED", b.chain(0), 1);
      b.fetch(279);
      due("numbers rising", b.chain(0), 1);
      b.fetch(148);
      due("made in the WEEK in which the one ahead was FETCHED", b.chain(0), 2);
      b.weeks(1);
      b.pledge(0, 0, 5);
      due("a WEEK too late", b.chain(0), 2);
      due("numbers rising", b.chain(1), 0);
    });
    edge("0 without any", () -> {
      BrassBalls b = busy(PLAIN);
      due("none", b.chain(0), 0);
      b.pledge(0, 1, 5);
      due("another's", b.chain(0), 0);
      due("one", b.chain(1), 1);
    });
  }

  private static void books() {
    edge("at SALES what of INTEREST was met by the price", () -> {
      BrassBalls b = busy(PLAIN + "year 4;");
      for (int i = 0; i < 4; i++) {
        b.pledge(0, 0, 20);
      }
      b.weeks(4);
      int[] price = {20, 21, 23, 99};
      int[] met = {0, 2, 8, 14};
      for (int i = 0; i < 4; i++) {
        b.sale(i, price[i]);
        due("at " + price[i], b.book(4, 1), met[i]);
      }
      due("SOLD", b.book(4, 4), 4);
      due("none FETCHED", b.book(4, 3), 0);
    });
    edge("a WEEK behind now or below 0", () -> {
      BrassBalls b = pledged(PLAIN);
      due("now", b.book(0, 0), 10);
      due("behind now", b.book(1, 0), -2);
      due("below 0", b.book(-1, 0), -2);
      b.weeks(52);
      due("now", b.book(52, 0), 0);
      due("behind now", b.book(53, 0), -2);
      due("the first", b.book(0, 4), 0);
      due("what", b.book(0, 5), -2);
    });
    edge("WORST of so many WEEKS (1 to 52): the first WEEK from which on so many of those from 0 to now", () -> {
      BrassBalls b = pledged(PLAIN);
      due("one there is", b.worst(1, 1), 10);
      due("two there are not", b.worst(2, 1), -3);
      due("0", b.worst(0, 1), -3);
      later(b, 50);
      due("51 there are", b.worst(52, 0), -3);
      due("51 there are", b.worst(51, 0), 0);
      b.weeks(1);
      due("52 there are", b.worst(52, 1), 10);
      b.pledge(0, 0, 5);
      due("with now", b.worst(52, 1), 20);
      due("the first of like ones", b.worst(51, 0), 0);
      due("the first of like ones", b.worst(1, 0), 0);
      b.pledge(0, 0, 1);
      due("the last", b.worst(1, 0), 51);
      b.weeks(1);
      due("53 there are", b.worst(53, 0), -3);
      due("the second", b.worst(52, 0), 0);
    });
    edge("how much (1; it may be below 0)", () -> {
      BrassBalls b = pledged("upto 9 take 9 per 1;");
      b.weeks(1);
      due("45 are paid", b.renew(148), 279);
      due("one WEEK", b.worst(1, 1), 10);
      due("both", b.worst(2, 1), 10 - 45);
    });
  }

  private static void scribes() {
    edge("SCRIBES 0 to 3: a HAND: five STROKES (0 to 9 each; 0 at first)", () -> {
      BrassBalls b = pledged(PLAIN);
      for (int k = -1; k <= 4; k++) {
        due("scribe " + k, b.scribe(k, 9, 9, 9, 9, 9), k < 0 || k > 3 ? -2 : 0);
        due("back to 0", b.scribe(k, 0, 0, 0, 0, 0), k < 0 || k > 3 ? -2 : 0);
        due("-1", b.scribe(k, 0, 0, -1, 0, 0), k < 0 || k > 3 ? -2 : -3);
        due("10", b.scribe(k, 0, 0, 0, 10, 0), k < 0 || k > 3 ? -2 : -3);
      }
      due("0 at first", pledged(PLAIN).hand(148, 1, 1, 1, 1, 2), 0);
      due("0 at first", pledged(PLAIN).hand(148, 1, 1, 1, 2, 2), 2);
      due("seen", b.hand(148, 0, 0, 0, 0, 10), -3);
      due("seen", b.hand(148, -1, 0, 0, 0, 0), -3);
      due("seen", b.hand(148, 9, 9, 9, 9, 9), 2);
    });
    edge("who is on DUTY then (0 at first)", () -> {
      BrassBalls b = busy(PLAIN);
      for (int k = 0; k < 4; k++) {
        b.scribe(k, 3 * k, 3 * k, 3 * k, 0, 0);
      }
      due("0", b.count(11), 0);
      b.pledge(0, 0, 5);
      for (int k = 1; k < 4; k++) {
        due("who was", b.duty(k), k - 1);
        b.pledge(0, 0, 5);
      }
      due("none such", b.duty(4), -2);
      due("3 still", b.count(11), 3);
      due("back to 0", b.duty(0), 3);
      due("0 again", b.count(11), 0);
      for (int k = 0; k < 4; k++) {
        for (int of = 0; of < 4; of++) {
          due("of " + of + " by " + k, b.hand(number(1 + k), 3 * of, 3 * of, 3 * of, 0, 0), k == of ? 0 : 1);
        }
      }
    });
    edge("0 if none of the SCRIBES' HANDS is less FAR than its writer's, and that is 6 at most", () -> {
      BrassBalls b = pledged(PLAIN);
      for (int k = 1; k < 4; k++) {
        b.scribe(k, 9, 0, 0, 0, 0);
      }
      due("3 of its own, 6 of the others", b.hand(148, 3, 0, 0, 0, 0), 0);
      due("4 of its own, 5 of the others", b.hand(148, 4, 0, 0, 0, 0), 0);
      due("5 and 6: as FAR is not less", b.hand(148, 4, 1, 0, 0, 0), 0);
      due("5 of its own, 4 of the others", b.hand(148, 5, 0, 0, 0, 0), 1);
      b.scribe(1, 8, 0, 0, 0, 0);
      due("4 and 4", b.hand(148, 4, 0, 0, 0, 0), 0);
      due("6 and 6", b.hand(148, 4, 2, 0, 0, 0), 0);
      due("7 and 7", b.hand(148, 4, 3, 0, 0, 0), 2);
    });
    edge("else 1 if the least FAR is 6 at most; else 2", () -> {
      BrassBalls b = pledged(PLAIN);
      b.scribe(3, 9, 9, 9, 9, 9);
      due("6 of another", b.hand(148, 9, 9, 9, 9, 3), 1);
      due("7 of another", b.hand(148, 9, 9, 9, 9, 2), 2);
      due("6 of its own", b.hand(148, 0, 0, 0, 0, 6), 0);
      due("7 of its own", b.hand(148, 0, 0, 0, 0, 7), 2);
    });
    edge("STROKES on a number (DEAD or not)", () -> {
      BrassBalls b = pledged(PLAIN);
      due("LIVES", b.hand(148, 0, 0, 0, 0, 0), 0);
      due("never such a one", b.hand(279, 0, 0, 0, 0, 0), -2);
      b.fetch(148);
      due("DEAD", b.hand(148, 0, 0, 0, 0, 0), 0);
      due("forged", b.hand(149, 0, 0, 0, 0, 0), -2);
      BrassBalls c = pledged(PLAIN);
      c.scribe(1, 9, 9, 9, 9, 9);
      for (int serial = 2; serial <= 150; serial++) {
        c.duty(serial == 75 || serial == 150 ? 1 : 0);
        c.swear(0);
      }
      for (int serial : new int[] {1, 2, 74, 75, 76, 148, 149, 150}) {
        due("serial " + serial, c.hand(number(serial), 9, 9, 9, 9, 9), serial == 75 || serial == 150 ? 0 : 1);
      }
    });
  }

  private static void suits() {
    edge("SUITS: of a PERSON a KIND and a loan (none at first)", () -> {
      BrassBalls b = busy(PLAIN);
      b.person(0, 999, 999, 0);
      due("none", b.street(104, 0), 0);
      due("none", b.shilling(104), 0);
      due("0", b.suit(2, 0, 0), -3);
      due("1000", b.suit(2, 0, 1000), -3);
      due("none still", b.street(104, 0), 0);
      due("1", b.suit(2, 0, 1), 0);
      due("SINKS", b.street(1, 0), 4);
      due("999", b.suit(2, 0, 999), 0);
      due("can't be lent", b.street(1, 0), 0);
    });
    edge("those of PEOPLE with a SUIT that SINK (LIFE by it) within these, as bits; none whose loan can't be lent", () -> {
      BrassBalls b = busy("upto 9 take 1 per 1;");
      for (int i = 2; i < 16; i++) {
        b.person(0, 999, 999, 0);
        b.suit(i, 0, i);
      }
      due("up to 9 pence", b.street(1, 0), 0x3fc);
      tell(b, 0, "upto 15 take 1 per 1;");
      due("up to the last", b.street(1, 0), 0xfffc);
      due("with 999 pence", b.street(1, 999), 0xfffc);
      tell(b, 0, "upto 1 take 1 per 1;");
      due("none", b.street(104, 0), 0);
      due("WEEKS", b.street(0, 0), -3);
      due("WEEKS", b.street(105, 0), -3);
      due("more", b.street(1, -1), -3);
      due("more", b.street(1, 1000), -3);
    });
    edge("those that SINK with nothing more, but not with 12 pence", () -> {
      BrassBalls b = busy(PLAIN);
      for (int rent = 0; rent < 3; rent++) {
        b.person(0, 12 + rent, 0, 0);
        b.suit(2 + rent, 0, 1);
      }
      b.person(0, 1, 0, 0);
      b.suit(5, 0, 1);
      due("11, 12, not 13; 0 is nothing", b.shilling(1), 0b01100);
      due("two WEEKS: 1", b.shilling(2), 0b100000);
      due("0 WEEKS", b.shilling(0), -3);
      due("105 WEEKS", b.shilling(105), -3);
    });
    edge("TRIPS for PLEDGES told as for RUSH with ARMS (1 to 99)", () -> {
      BrassBalls b = busy(PLAIN);
      b.kind(9, 1, 1, 0, false);
      b.rack(99, 99);
      for (int i = 0; i < 8; i++) {
        b.pledge(2, 0, 5);
        b.put(i, 0);
      }
      due("0", b.trips(0, 255, 0), -3);
      due("100", b.trips(0, 255, 100), -3);
      due("99", b.trips(0, 255, 99), 198);
      due("1: a SIZE is above ARMS", b.trips(0, 255, 1), -1);
      due("none to bring with 1", b.trips(0, 0, 1), 0);
      b.rack(99, 0);
      b.put(7, 1);
      due("0 STEPS", b.trips(7, 1, 9), 0);
      due("0 STEPS", b.trips(0, 192, 9), 198);
      b.put(7, 0);
      due("each by itself", b.trips(0, 255, 9), 8 * 198);
    });
    edge("SIZES of one TRIP together are no more than ARMS", () -> {
      BrassBalls b = busy(PLAIN);
      b.rack(99, 5);
      for (int i = 0; i < 4; i++) {
        b.pledge(0, 0, 5);
        b.put(i, 0);
      }
      int[][] due = {{2, -1}, {3, 40}, {5, 40}, {6, 20}, {8, 20}, {9, 20}, {11, 20}, {12, 10}};
      for (int[] d : due) {
        due("ARMS " + d[0], b.trips(0, 15, d[0]), d[1]);
      }
    });
    edge("how often it was RENEWED, INTEREST paid by that together", () -> {
      BrassBalls b = pledged(PLAIN + "ticket 7;");
      due("never", b.renewals(0, 0), 0);
      due("nothing", b.renewals(0, 1), 0);
      b.renew(148);
      due("once", b.renewals(0, 0), 1);
      due("not ticket", b.renewals(0, 1), 1);
    });
    edge("of all PASSED PLEDGES OVER less SHORT together", () -> {
      BrassBalls b = busy(PLAIN + "year 2;");
      due("none", b.foresee(false), 0);
      b.pledge(0, 0, 10);
      b.weeks(1);
      due("not PASSED", b.foresee(false), 0);
      b.weeks(1);
      due("LOW: SHORT", b.foresee(false), 20 - 22);
      due("HIGH: OVER", b.foresee(true), 28 - 22);
      b.fetch(148);
      due("FETCHED", b.foresee(true), 0);
    });
  }

  private static void lists() {
    edge("LISTED, at most 12, numbered as they come: a KIND, the WEEK in which it was stolen", () -> {
      BrassBalls b = busy(PLAIN);
      due("-1", b.list(0, -1), -3);
      due("301", b.list(0, 301), -3);
      due("0", b.list(0, 0), 0);
      due("300", b.list(0, 300), 1);
      for (int i = 2; i < 12; i++) {
        due("list", b.list(0, 0), i);
      }
      due("the 13th", b.list(0, 0), -4);
      due("how many", b.count(10), 12);
      for (int i = 0; i < 13; i++) {
        b.pledge(0, 0, 5);
      }
      due("all but that of WEEK 300", b.match(-1), 11);
      due("the last", b.match(11), 10);
      due("none behind it", b.match(12), -1);
    });
    edge("It may be a PLEDGE that is HERE, of that KIND, made in that WEEK or later", () -> {
      BrassBalls b = busy(PLAIN);
      b.weeks(5);
      b.pledge(0, 0, 5);
      b.list(0, 6);
      due("made before", b.match(-1), 0);
      b.list(0, 5);
      due("made in that WEEK", b.match(-1), 1);
      due("made in that WEEK", b.match(1), 0);
      b.weeks(1);
      b.renew(148);
      due("made, not RENEWED", b.match(0), -1);
      b.pledge(1, 0, 5);
      due("another KIND", b.match(-1), 1);
      b.fetch(number(2));
      due("not HERE", b.match(-1), 0);
      b.list(1, 6);
      due("of that KIND", b.match(-1), 1);
      due("of that KIND", b.match(2), 1);
    });
    edge("each LISTED with a PLEDGE of its own that it may be, or none: as many as can be", () -> {
      BrassBalls b = pledged(PLAIN);
      b.list(0, 0);
      b.list(0, 0);
      due("one PLEDGE", b.match(-1), 1);
      due("the first thing", b.match(0), 0);
      due("none behind all", b.match(1), -1);
      BrassBalls c = busy(PLAIN);
      c.pledge(0, 0, 5);
      c.weeks(3);
      c.pledge(0, 0, 5);
      c.list(0, 0);
      c.list(0, 3);
      due("two", c.match(-1), 2);
      due("the least", c.match(0), 0);
      due("what is left", c.match(1), 1);
    });
    edge("of like ones the first, thing by thing: the least PLEDGE, none behind all", () -> {
      BrassBalls b = busy(PLAIN);
      b.list(0, 2);
      b.list(0, 0);
      b.list(0, 1);
      b.list(0, 0);
      for (int i = 0; i < 3; i++) {
        b.pledge(0, 0, 5);
        b.weeks(1);
      }
      due("three of four", b.match(-1), 3);
      int[] due = {2, 0, 1, -1};
      for (int i = 0; i < 4; i++) {
        due("thing " + i, b.match(i), due[i]);
      }
      due("below", b.match(-2), -1);
    });
  }

  // ==== 4. ROWS, IMAGES, and what the promises themselves say

  private static void rows() {
    edge("ROWS 0 to 3 are MISSING at first, or have 0 to 40 numbers", () -> {
      BrassBalls b = new BrassBalls();
      for (int row = 0; row < 4; row++) {
        due("MISSING", b.write(row, 0, 1), -6);
        due("MISSING", b.clerk(row), -6);
        due("41", b.row(row, 0, 41), -3);
        due("-1", b.row(row, 0, -1), -3);
        due("MISSING still", b.write(row, 0, 1), -6);
        due("0", b.row(row, 0, 0), 0);
        due("no number", b.write(row, 0, 1), -7);
        due("not MISSING", b.clerk(row), 0);
        due("40", b.row(row, 0, 40), 0);
        due("the last", b.write(row, 39, 7), 7);
        due("none behind it", b.write(row, 40, 7), -7);
      }
      due("no ROW 4", b.row(4, 0, 0), -2);
    });
    edge("of 8 bits (sort 0), 16 (1), 32 (2), 64 (3)", () -> {
      BrassBalls b = new BrassBalls();
      for (int sort = 0; sort < 4; sort++) {
        b.row(sort, sort, 1);
      }
      due("no sort 4", b.row(0, 4, 1), -2);
      for (int sort = 0; sort < 3; sort++) {
        long half = 1L << (8 << sort) - 1;
        long[] v = {0, 1, -1, half - 1, half, half + 1, -half, -half - 1, 2 * half - 1, 2 * half, 2 * half + 1, -2 * half, -2 * half - 1, 5 * half};
        for (long n : v) {
          due(n + " in sort " + sort, b.write(sort, 0, n), Math.floorMod(n + half, 2 * half) - half);
        }
        due("the greatest of all", b.write(sort, 0, Long.MAX_VALUE), -1);
        due("the least of all", b.write(sort, 0, Long.MIN_VALUE), 0);
      }
      for (long n : new long[] {0, -1, Long.MAX_VALUE, Long.MIN_VALUE, 1L << 32, -1L << 31}) {
        due(n + " in 64 bits", b.write(3, 0, n), n);
      }
    });
    edge("A ROW has n numbers of a sort, all 0 (in place of another one)", () -> {
      BrassBalls b = busy(PLAIN);
      row(b, 0, 2, 1, 1, 5);
      due("1 1 5", b.clerk(0), 1);
      b.row(0, 2, 3);
      due("0 0 0", b.clerk(0), 0);
      b.write(0, 2, 5);
      due("0 0 5", b.clerk(0), 1);
      due("KIND 0", b.of(1, 0), 0);
      b.row(0, 2, 2);
      due("ends within one", b.clerk(0), 0);
      b.row(0, 2, 3);
      due("0 0 0 again", b.clerk(0), 0);
    });
    edge("-3, and the ROW stays: n is below 0 or above 40", () -> {
      BrassBalls b = busy(PLAIN);
      row(b, 0, 1, 0, 1, 300 - 250);
      for (int n : new int[] {-1, 41, MIN, MAX}) {
        due("n " + n, b.row(0, 3, n), -3);
      }
      due("its length", b.write(0, 3, 1), -7);
      due("its numbers", b.clerk(0), 1);
      due("its sort", b.write(0, 0, 65537), 1);
    });
    edge("Number i of a ROW is v, cut to its sort: as it is there", () -> {
      BrassBalls b = busy(PLAIN);
      row(b, 0, 0, 256, 257, 261);
      due("0 1 5", b.clerk(0), 1);
      due("KIND", b.of(0, 0), 0);
      due("whose", b.of(0, 1), 1);
      due("loan", b.of(0, 2), 5);
      row(b, 0, 3, 256, 1, 5);
      due("not cut", b.clerk(0), 0);
    });
    edge("PLEDGING one behind the other till one is refused, or it ends (also within one)", () -> {
      int[][] rows = {{0}, {0, 0, 0}, {1, 0, 0, 5}, {1, 0, 0, 5, 0}, {1, 0, 0, 5, 0, 0}, {2, 0, 0, 5, 1, 1, 6}, {1, 0, 0, 5, 2, 0, 5, 0, 0, 5}, {0, 0, 2, 5, 0, 0, 5},
          {1, 0, 0, 5, 0, 0, 0, 0, 0, 5}, {1, 0, 0, 5, 0, 0, 101, 0, 0, 5}, {3, 0, 0, 5, 0, 0, 5, 1, 1, 100, 0}};
      for (int i = 0; i < rows.length; i++) {
        BrassBalls b = busy(PLAIN);
        long[] numbers = new long[rows[i].length - 1];
        for (int j = 0; j < numbers.length; j++) {
          numbers[j] = rows[i][j + 1];
        }
        row(b, 0, 1, numbers);
        due("ROW " + i, b.clerk(0), rows[i][0]);
        due("PLEDGES of ROW " + i, b.count(2), rows[i][0]);
      }
      BrassBalls b = busy(PLAIN);
      for (int i = 0; i < 58; i++) {
        b.pledge(0, 0, 1);
      }
      row(b, 0, 0, 0, 0, 1, 0, 0, 1, 0, 0, 1);
      due("60 are full", b.clerk(0), 2);
    });
  }

  private static void images() {
    edge("IMAGES 0 to 1: all but THE TAPE, the FAULT, ROWS, as it was (none at first)", () -> {
      BrassBalls b = busy(PLAIN);
      due("none", b.restore(0), -5);
      due("none", b.restore(1), -5);
      due("0", b.image(0), 0);
      due("1 still none", b.restore(1), -5);
      due("no IMAGE 2", b.image(2), -2);
      due("no IMAGE -1", b.image(-1), -2);
      b.pledge(0, 0, 5);
      b.weeks(5);
      row(b, 0, 0, 7);
      tell(b, 0, "year 0;");
      feed(b, "x");
      due("back", b.restore(0), 0);
      due("WEEK", b.count(8), 0);
      due("PLEDGES", b.count(2), 0);
      due("TICKETS", b.ticket(148), 3);
      due("not THE TAPE", b.count(7), 20);
      due("not the FAULT", b.fault(0), 3);
      due("not ROWS", b.write(0, 1, 5), -7);
      due("1 still none", b.restore(1), -5);
      due("of an empty shop", new BrassBalls().image(1), 0);
    });
    edge("The k-th, the i-th of whatever: from 0 on", () -> {
      BrassBalls b = pledged(PLAIN + "year 1;");
      b.weeks(1);
      tell(b, 1, "seek if cloth;");
      b.list(0, 0);
      due("passed", b.passed(0), 0);
      due("fits", b.fits(0, 0), 0);
      due("match", b.match(0), 0);
      due("lots", b.lots(1, 0), 1);
      for (int i : new int[] {1, 2, -2, MIN, MAX}) {
        due("passed " + i, b.passed(i), -1);
        due("fits " + i, b.fits(0, i), -1);
        due("match " + i, b.match(i), -1);
        due("lots " + i, b.lots(1, i), -1);
      }
    });
  }

  private static void tape() {
    edge("Twenty bytes come behind those on THE TAPE, the highest of each int first: how many it has.", () -> {
      BrassBalls b = new BrassBalls();
      due("20", b.feed(0x6c656173, 0x74203b3b, -1, MIN, MAX), 20);
      due("least ;: there is no N", b.text(0, 20), -12);
      due("the first ;", b.fault(1), 6);
      due("bytes above 127", b.feed(0x20202020, 0x202020ff, 0, 0, 0), 20);
      due("no TOKEN", b.text(0, 20), -11);
      due("the eighth byte", b.fault(1), 7);
      b.feed(0x79656172, 0x20202020, 0x20202020, 0x20202020, 0x20202031);
      due("40", b.feed(0x303b0000, 0, 0, 0, 0), 40);
      due("year 10; over two of them", b.text(0, 22), 1);
    });
    edge("-4: it would have more than 400", () -> {
      BrassBalls b = new BrassBalls();
      for (int i = 1; i <= 20; i++) {
        due("feed", b.feed(0x20202020, 0x20202020, 0x20202020, 0x20202020, 0x20202020), 20 * i);
      }
      due("420", b.feed(0x20202020, 0, 0, 0, 0), -4);
      due("401 are not there", b.text(0, 401), -3);
      due("400 blanks", b.text(0, 400), 0);
      due("room again", b.feed(0x20202020, 0, 0, 0, 0), 20);
    });
    edge("The first n bytes of THE TAPE (which is empty then)", () -> {
      BrassBalls b = new BrassBalls();
      feed(b, "year 5;hold 5;moth 5;");
      due("7 of 40", b.text(0, 7), 1);
      due("empty", b.count(7), 0);
      due("nothing is there", b.text(0, 1), -3);
      feed(b, "year 0;");
      due("a FAULT", b.text(0, 7), -13);
      due("empty with a FAULT too", b.count(7), 0);
      feed(b, "year 5;");
      due("no bytes", b.text(1, 0), 0);
      due("empty all the same", b.count(7), 0);
    });
    edge("-3: n is below 0 or above what there is (THE TAPE stays)", () -> {
      BrassBalls b = new BrassBalls();
      feed(b, "year 5;");
      for (int n : new int[] {-1, 21, MIN, MAX}) {
        due("n " + n, b.text(0, n), -3);
        due("THE TAPE stays", b.count(7), 20);
      }
      due("all of it", b.text(0, 20), 1);
      due("0 of nothing", b.text(0, 0), 0);
      due("1 of nothing", b.text(0, 1), -3);
    });
    edge("(that there was stays with a FAULT)", () -> {
      BrassBalls b = pledged("upto 9 take 2 per 1;least 3;");
      tell(b, 1, "seek if cloth;seek if by 1;");
      due("a FAULT at its end", tell(b, 0, "upto 5 take 9 per 1;least 9;year 9"), -12);
      due("the uptos", b.interest(0, 9, 0, 0), 18);
      due("least", b.interest(0, 1, 0, 0), 3);
      due("LINES", b.count(5), 2);
      due("a FAULT at its end", tell(b, 1, "seek if not cloth;seek if by 0"), -12);
      due("the first LOOK", b.fits(0, -1), 1);
      due("the second LOOK", b.fits(1, -1), 0);
      due("LOOKS", b.count(6), 2);
      b.other();
      due("what is kept is that there was", b.interest(1, 9, 0, 0), 18);
    });
    edge("-10 less the FAULT", () -> {
      String[] laws = {"#", "five;", "year 0;", "year 5;year 5;"};
      for (int i = 0; i < 4; i++) {
        due(laws[i], tell(new BrassBalls(), 0, laws[i]), -11 - i);
      }
      due("not not ..", tell(new BrassBalls(), 1, "seek if " + times(9, "not ") + "cloth;"), -15);
    });
    edge("Of the latest text that was read, what 0: its FAULT (0), 1: its place (NONE). NONE for others.", () -> {
      BrassBalls b = new BrassBalls();
      due("none was read", b.fault(0), 0);
      due("none was read", b.fault(1), -1);
      tell(b, 0, "  year 0;");
      due("its FAULT", b.fault(0), 3);
      due("its place", b.fault(1), 7);
      b.text(0, 1);
      b.text(2, 0);
      due("not read", b.fault(0), 3);
      tell(b, 1, "seek if cloth;");
      due("of LOOKS", b.fault(0), 0);
      due("of LOOKS", b.fault(1), -1);
      for (int what : new int[] {-1, 2, MIN, MAX}) {
        due("others", b.fault(what), -1);
      }
    });
  }

  private static void counts() {
    edge("20 and a RACK: room left. NONE for others.", () -> {
      BrassBalls b = busy(PLAIN);
      due("no RACK", b.count(20), -1);
      b.pledge(0, 0, 5);
      for (int i = 0; i < 10; i++) {
        b.rack(5 + i, 0);
        due("RACK " + i, b.count(20 + i), 5 + i);
        due("no RACK behind it", b.count(21 + i), -1);
      }
      b.put(0, 9);
      due("room left", b.count(29), 11);
      for (int what : new int[] {-1, 12, 13, 19, 30, MIN, MAX}) {
        due("others", b.count(what), -1);
      }
    });
    edge("OVER of a SOLD PLEDGE is asked for: how much comes to the PURSE (0 if it was asked for, or is none)", () -> {
      BrassBalls b = busy(PLAIN + "year 1;");
      b.pledge(0, 0, 10);
      b.pledge(0, 0, 10);
      b.weeks(1);
      due("not SOLD", b.over(0), -5);
      b.sale(0, 11);
      b.sale(1, 10);
      due("1 OVER", b.over(0), 1);
      due("asked for", b.over(0), 0);
      due("is none", b.over(1), 0);
      due("the PURSE", b.purse(0), 241);
    });
    edge("INTEREST of a loan (1 to 999 pence) from a WEEK to another one", () -> {
      BrassBalls b = shop(PENNIES);
      due("1", b.interest(0, 1, 0, 0), 1);
      due("999", b.interest(0, 999, 0, 0), 999);
      due("0", b.interest(0, 0, 0, 0), -3);
      due("1000", b.interest(0, 1000, 0, 0), -3);
      due("the same WEEK", b.interest(0, 1, 300, 300), 1);
      due("a WEEK back", b.interest(0, 1, 300, 299), -3);
      due("-1", b.interest(0, 1, -1, 0), -3);
      due("301", b.interest(0, 1, 0, 301), -3);
    });
    edge("Of a PLEDGE, what 0: KIND, 1: whose, 2: loan, 3: WEEK, 4: RACK, 5: 0 HERE, 1 FETCHED, 2 SOLD, 6: 1 if HELD now, else 0", () -> {
      BrassBalls b = pledged(PLAIN);
      int[] due = {-1000, 0, 0, 5, 0, -1, 0, 0, 10, 14, -1000};
      for (int what = -1; what <= 9; what++) {
        due("what " + what, b.of(0, what), due[what + 1]);
        due("none such", b.of(1, what), -1000);
        due("none such", b.of(-1, what), -1000);
      }
    });
  }

  private static void nones() {
    edge("So many WEEKS (1 to 52) go by: WEEK then.", () -> {
      BrassBalls b = new BrassBalls();
      for (int n : new int[] {0, 53, -1, -52, MIN, MAX}) {
        due("weeks " + n, b.weeks(n), -3);
      }
      due("1", b.weeks(1), 1);
      due("52", b.weeks(52), 53);
    });
    edge("(What is below 0 may look like these.)", () -> {
      BrassBalls b = shop("upto 999 take 0 per 1;");
      b.kind(1, 1, 999, 0, false);
      due("2 hundredths of 1 of 999", b.gained(0, 2, 99, 1), -2);
      due("a KIND that there is not", b.gained(1, 2, 99, 1), -2);
      b.kind(1, 1, 666, 0, false);
      due("2 hundredths of 1 of 666", b.gained(1, 2, 99, 1), -3);
      due("LEND is not told by it", b.lend(1, 99, 1), 1);
    });
    edge("NONE: no room for all, not so many.", () -> {
      BrassBalls b = busy(PLAIN);
      b.rack(3, 4);
      b.pledge(0, 0, 5);
      b.pledge(1, 0, 5);
      row(b, 0, 0, 5, 5);
      due("room for one", b.best(0, 1, -1), 20);
      due("its RACK", b.best(0, 1, 0), 0);
      due("there is no second", b.best(0, 1, 1), -1);
      due("none ahead of the first", b.best(0, 1, -2), -1);
      due("no room for both", b.best(0, 2, -1), -1);
      due("no room for both", b.best(0, 2, 0), -1);
      due("no room for both", b.best(0, 2, 1), -1);
    });
    edge("LIFE: the WEEK in which it SINKS (0: the first); NONE: it doesn't.", () -> {
      BrassBalls b = busy(PLAIN);
      b.person(0, 5, 0, 12);
      int[][] due = {{1, -1}, {2, -1}, {3, -1}, {4, 3}, {104, 3}};
      // 24, 14, 4, -6 and 10 for the suit: 4, -6
      for (int[] d : due) {
        due(d[0] + " WEEKS", b.life(2, 0, 5, d[0], 0), d[1]);
      }
      due("0: the first", b.life(2, 0, 1, 1, 0), -1);
      b.person(0, 5, 0, 0);
      due("0: the first", b.life(3, 0, 1, 1, 0), 0);
      due("not with 10 half pence", b.life(3, 0, 5, 1, 0), -1);
    });
    edge("(i NONE), the i-th; NONE: not so many.", () -> {
      BrassBalls b = busy(PLAIN + "year 1;");
      tell(b, 1, "seek if cloth;");
      due("none PASSED", b.passed(-1), 0);
      due("none PASSED", b.passed(0), -1);
      due("none FIT", b.fits(0, -1), 0);
      due("none FIT", b.fits(0, 0), -1);
      b.pledge(1, 0, 5);
      b.pledge(0, 0, 5);
      b.pledge(0, 0, 5);
      b.weeks(1);
      b.renew(148);
      int[] due = {2, 1, 2, -1};
      for (int i = -1; i < 3; i++) {
        due("PASSED " + i, b.passed(i), due[1 + i]);
        due("FIT " + i, b.fits(0, i), due[1 + i]);
      }
    });
    edge("LOTS: the greatest sum (i NONE), how many PLEDGES are in the i-th LOT. NONE: not so many LOTS.", () -> {
      BrassBalls b = busy(PLAIN + "year 1;");
      b.pledge(0, 0, 5);
      b.pledge(1, 0, 5);
      b.weeks(1);
      int[][] due = {{110, 2, -1, -1}, {100, 1, 1, -1}};
      for (int n = 1; n <= 2; n++) {
        for (int i = -1; i < 3; i++) {
          due(n + " LOTS, " + i, b.lots(n, i), due[n - 1][1 + i]);
        }
        due(n + " LOTS, below", b.lots(n, -2), -1);
      }
    });
    edge("NONE: a SIZE is above ARMS. -3: bits, ARMS; -5 as rush().", () -> {
      BrassBalls b = busy(PLAIN);
      b.rack(9, 1);
      b.pledge(0, 0, 5);
      b.pledge(1, 0, 5);
      b.put(0, 0);
      due("3 is above 2", b.trips(0, 1, 2), -1);
      due("3 is not above 3", b.trips(0, 1, 3), 2);
      due("it is not told", b.trips(0, 0, 2), 0);
      due("on no RACK", b.trips(0, 3, 2), -5);
      b.put(1, 0);
      due("one of two is above", b.trips(0, 3, 2), -1);
      due("the other is not", b.trips(0, 2, 2), 2);
      b.fetch(148);
      due("not HERE", b.trips(0, 3, 2), -5);
      due("none such", b.trips(0, 6, 2), -5);
      due("bits", b.trips(0, 256, 2), -3);
      due("ARMS", b.trips(0, 2, 100), -3);
    });
    edge("NONE: it has none, there is none such.", () -> {
      BrassBalls b = pledged(PLAIN);
      due("none LISTED", b.match(-1), 0);
      due("none LISTED", b.match(0), -1);
      b.list(1, 0);
      b.list(0, 0);
      due("it has none", b.match(0), -1);
      due("it has one", b.match(1), 0);
      due("there is none such", b.match(2), -1);
      due("there is none such", b.match(-2), -1);
      due("how many", b.match(-1), 1);
    });
    edge("NEEDS; NONE: more than 999. Refused as life() is.", () -> {
      BrassBalls b = busy(PLAIN);
      b.person(0, 999, 2, 0);
      due("1000 would do", b.needs(2, 0, 1, 1), -1);
      due("999 with a better suit", b.needs(2, 0, 2, 1), 999);
      int[][] refused = {{-1, 0, 0, 0}, {3, 0, 1, 1}, {2, -1, 1, 1}, {2, 2, 1, 1}, {2, 0, 0, 1}, {2, 0, 1000, 1}, {2, 0, 1, 0}, {2, 0, 1, 105}, {2, 0, 101, 1}};
      int[] codes = {-2, -2, -2, -2, -3, -3, -3, -3, -5};
      for (int i = 0; i < refused.length; i++) {
        int[] r = refused[i];
        due("needs", b.needs(r[0], r[1], r[2], r[3]), codes[i]);
        due("life", b.life(r[0], r[1], r[2], r[3], 0), codes[i]);
      }
    });
    edge("prices at SALES up to DUE", () -> {
      int[] price = {0, 5, 11, 12, 9999};
      int[] back = {0, 10, 22, 22, 22};
      for (int i = 0; i < price.length; i++) {
        BrassBalls b = busy(PLAIN + "year 2;");
        b.pledge(0, 0, 10);
        b.weeks(2);
        b.sale(0, price[i]);
        due("at " + price[i], b.worst(3, 1), 20 - back[i]);
        due("the WEEK of the SALE is not worse", b.worst(1, 1), 20);
        due("nor are those to now", b.worst(2, 1), 20);
      }
    });
  }

  public static void main(String[] args) throws Exception {
    Runnable[] all = {EdgeTests::callsAndWeeks, EdgeTests::kinds, EdgeTests::people, EdgeTests::lawBounds, EdgeTests::looksBounds, EdgeTests::tokens,
        EdgeTests::faults, EdgeTests::interest, EdgeTests::pledges, EdgeTests::numbers, EdgeTests::purses, EdgeTests::holding, EdgeTests::sales,
        EdgeTests::lending, EdgeTests::racks, EdgeTests::lives, EdgeTests::looks, EdgeTests::books, EdgeTests::scribes, EdgeTests::suits, EdgeTests::lists,
        EdgeTests::rows, EdgeTests::images, EdgeTests::tape, EdgeTests::counts, EdgeTests::nones};
    for (Runnable test : all) {
      test.run();
    }
    if (args.length > 0) {
      String document = Files.readString(Path.of(args[0]));
      for (String sentence : SENTENCES) {
        at = sentence;
        due("stands in the document", document.contains(sentence) ? 1 : 0, 1);
      }
    }
    System.out.println("EdgeTests: " + (wrong == 0 ? SENTENCES.size() + " sentences hold" : wrong + " answers are not as due"));
    if (wrong != 0) {
      System.exit(1);
    }
  }
}
