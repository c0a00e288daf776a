/**
 * The promises one by one, with answers worked out by hand from the document: ordinary inputs, the edges it names, wrong inputs. Each method
 * makes its own objects.
 */
public final class PromiseTests extends Helpers {
  private static void aNewObject() {
    BrassBalls b = new BrassBalls();
    for (int what = -1; what < 22; what++) {
      due("count(" + what + ")", b.count(what), what >= 0 && what <= 11 ? 0 : -1);
    }
    due("fault(0)", b.fault(0), 0);
    due("fault(1)", b.fault(1), -1);
    due("of", b.of(0, 0), -1000);
    due("restore", b.restore(0), -5);
    due("clerk", b.clerk(0), -6);
    due("runs before other", b.runs(0, 0), -2);
    due("book", b.book(0, 4), 0);
    due("match", b.match(-1), 0);
    due("foresee", b.foresee(true), 0);
    due("street", b.street(1, 0), 0);
  }

  private static void feed() {
    BrassBalls b = new BrassBalls();
    for (int i = 1; i <= 20; i++) {
      due("feed " + i, b.feed(0x68756874, -1, 0, MIN, MAX), 20 * i);
    }
    due("feed 21", b.feed(0, 0, 0, 0, 0), -4);
    due("count(7)", b.count(7), 400);
    due("text of 20", b.text(0, 4), -12);
    due("THE TAPE is empty", b.count(7), 0);
    due("highest byte first", b.feed(0x79656172, 0x2035303b, 0, 0, 0), 20);
    due("year 50;", b.text(0, 8), 1);
  }

  private static void text() {
    BrassBalls b = new BrassBalls();
    feed(b, "year 5;hold 3;");
    due("what", b.text(2, 0), -2);
    due("what", b.text(-1, 21), -2);
    due("below 0", b.text(0, -1), -3);
    due("above", b.text(0, 21), -3);
    due("THE TAPE stays", b.count(7), 20);
    due("first bytes", b.text(0, 7), 1);
    due("count(5)", b.count(5), 1);
    due("no bytes", b.text(0, 1), -3);
    due("a FAULT", tell(b, 0, "hold 3;hold 3;"), -14);
    due("what was stays", b.count(5), 1);
    due("LOOKS", tell(b, 1, "seek if cloth;seek if by 0 ;"), 2);
    due("count(6)", b.count(6), 2);
    due("LOOKS with a FAULT", tell(b, 1, "seek if cloth,"), -11);
    due("LOOKS stay", b.count(6), 2);
    due("empty LAW", b.text(0, 0), 0);
    due("LINES", b.count(5), 0);
    due("empty LOOKS", b.text(1, 0), 0);
    due("LOOKS", b.count(6), 0);
    due("all bytes", tell(b, 0, "upto 1 take 0 per 999;upto 999 take 99 per 1;least 0;ticket 0;sworn 0;year 1;moth 0;hold 1;"), 8);
    due("blanks", tell(b, 0, "\n upto\n9 take 5  per 07 ; \n"), 1);
    due("interest", b.interest(0, 8, 0, 0), 10);
    due("no blanks", tell(b, 0, "upto9take5per7;least3;"), 2);
    due("interest", b.interest(0, 8, 0, 0), 10);
    due("no blanks", tell(b, 1, "seek if(cloth)and(not(by 3));seek if by1or by1;"), 2);
    BrassBalls c = busy(PLAIN);
    c.pledge(0, 0, 5);
    for (int i = 0; i < 60; i++) {
      due("anew each time", tell(c, 1, "seek if by 1 or by 1 or by 1 or by 1 or by " + i % 2 + ";"), 1);
      due("fits", c.fits(0, -1), 1 - i % 2);
    }
    StringBuilder many = new StringBuilder("seek if");
    for (int i = 0; i < 64; i++) {
      many.append(i < 63 ? "by1or " : "by0;");
    }
    due("some sixty FACTS", tell(c, 1, many.toString().replace("ifby", "if by")), 1);
    due("the last of them", c.fits(0, -1), 1);
  }

  private static void fault() {
    BrassBalls b = new BrassBalls();
    tell(b, 0, "year 0;");
    due("fault(0)", b.fault(0), 3);
    due("fault(1)", b.fault(1), 5);
    due("fault(2)", b.fault(2), -1);
    due("fault(-1)", b.fault(-1), -1);
    feed(b, "year 1;");
    b.text(7, 0);
    b.text(0, -5);
    due("not read", b.fault(0), 3);
    b.text(0, 7);
    due("right now", b.fault(0), 0);
    due("right now", b.fault(1), -1);
    lawFaults();
    lookFaults();
  }

  private static void lawFaults() {
    fault(0, "", 0, -1);
    fault(0, "  \n ", 0, -1);
    fault(0, "Year 5;", 1, 0);
    fault(0, "\tyear 5;", 1, 0);
    fault(0, "year\r5;", 1, 4);
    fault(0, "year 0005;", 1, 5);
    fault(0, "year 005;", 0, -1);
    fault(0, "years 5;", 2, 0);
    fault(0, "yea 5;", 2, 0);
    fault(0, "five;", 2, 0);
    fault(0, "5;", 2, 0);
    fault(0, ";", 2, 0);
    fault(0, "seek if cloth;", 2, 0);
    fault(0, "year;", 2, 4);
    fault(0, "year 5 5;", 2, 7);
    fault(0, "year 5", 2, 6);
    fault(0, "year 5  ", 2, 8);
    fault(0, "year", 2, 4);
    fault(0, "year )", 2, 5);
    fault(0, "year 105;", 3, 5);
    fault(0, "year 104;", 0, -1);
    fault(0, "year 1;", 0, -1);
    fault(0, "least 99;ticket 20;sworn 99;moth 20;hold 52;", 0, -1);
    fault(0, "least 100;", 3, 6);
    fault(0, "ticket 21;", 3, 7);
    fault(0, "sworn 100;", 3, 6);
    fault(0, "moth 21;", 3, 5);
    fault(0, "hold 53;", 3, 5);
    fault(0, "hold 0;", 3, 5);
    fault(0, "year 1;year 200;", 4, 7);
    fault(0, "moth 1;least 1;moth;", 4, 15);
    fault(0, "upto 0 take 1 per 1;", 3, 5);
    fault(0, "upto 999 take 0 per 999;", 0, -1);
    fault(0, "upto 1 take 100 per 0;", 3, 12);
    fault(0, "upto 1 take 1 per 0;", 3, 18);
    fault(0, "upto 1 per 1 take 1;", 2, 7);
    fault(0, "upto 1 take 1 1;", 2, 14);
    fault(0, "upto 5 take 1 per 1;upto 4 take 1 per 1;", 3, 25);
    fault(0, "upto 5 take 1 per 1;upto 5 take 1 per 1;", 3, 25);
    fault(0, "upto 5 take 1 per 1;upto 6 take 1 per 1;", 0, -1);
    fault(0, "upto 999 take 1 per 1;upto 999 take 1 per 1;", 3, 27);
    StringBuilder eight = new StringBuilder();
    for (int i = 1; i <= 8; i++) {
      eight.append("upto ").append(i).append(" take 1 per 1;");
    }
    fault(0, eight.toString(), 0, -1);
    fault(0, eight + "upto", 4, 160);
    fault(0, eight + "Upto", 1, 160);
    fault(0, eight + "uptos", 2, 160);
  }

  private static void lookFaults() {
    fault(1, "", 0, -1);
    fault(1, "seek if cloth", 2, 13);
    fault(1, "seek if cloth 1;", 2, 14);
    fault(1, "year 5;", 2, 0);
    fault(1, "if cloth;", 2, 0);
    fault(1, "seek cloth;", 2, 5);
    fault(1, "seek if;", 2, 7);
    fault(1, "seek if or;", 2, 8);
    fault(1, "seek if cloth or;", 2, 16);
    fault(1, "seek if cloth and or;", 2, 18);
    fault(1, "seek if cloth not by 1;", 2, 14);
    fault(1, "seek if cloth);", 2, 13);
    fault(1, "seek if (cloth;", 2, 14);
    fault(1, "seek if ();", 2, 9);
    fault(1, "seek if not;", 2, 11);
    fault(1, "seek if by cloth;", 2, 11);
    fault(1, "seek if cloth:", 1, 13);
    fault(1, "seek if kind 0 or kind 11 or size 1 or size 9 or above 0 or above 999;", 0, -1);
    fault(1, "seek if since 0 or since 300 or by 0 or by 15;", 0, -1);
    fault(1, "seek if kind 12;", 3, 13);
    fault(1, "seek if size 0;", 3, 13);
    fault(1, "seek if size 10;", 3, 13);
    fault(1, "seek if above 1000;", 1, 14);
    fault(1, "seek if since 301;", 3, 14);
    fault(1, "seek if by 16;", 3, 11);
    fault(1, "seek if not not not not not not not not cloth;", 0, -1);
    fault(1, "seek if not not not not not not not not not cloth;", 5, 40);
    fault(1, "seek if ((((((((cloth))))))));", 0, -1);
    fault(1, "seek if (((((((((cloth", 5, 16);
    fault(1, "seek if (not(not(not(cloth)))) or (not(not(not(not(", 5, 50);
    fault(1, "seek if not not not not cloth and not not not not cloth and not not not not not cloth;", 0, -1);
    fault(1, "seek if (((((((not cloth and not cloth or not by 1)))))));", 0, -1);
    fault(1, "seek if (((((((not (", 5, 19);
    StringBuilder eight = new StringBuilder();
    for (int i = 0; i < 8; i++) {
      eight.append("seek if cloth;");
    }
    fault(1, eight.toString(), 0, -1);
    fault(1, eight + " seek", 4, 113);
    fault(1, eight + " look", 2, 113);
  }

  private static void other() {
    BrassBalls b = busy(PLAIN);
    due("none", b.interest(1, 10, 0, 0), -5);
    due("none", b.runs(0, 0), -5);
    due("other", b.other(), 0);
    due("as it is", b.interest(1, 10, 0, 0), 1);
    tell(b, 0, "upto 50 take 9 per 10;");
    due("kept", b.interest(1, 10, 0, 0), 1);
    due("kept", b.interest(1, 100, 0, 0), 10);
    due("other", b.other(), 0);
    due("anew", b.interest(1, 10, 0, 0), 9);
    due("anew", b.interest(1, 100, 0, 0), -5);
    BrassBalls c = busy("");
    c.other();
    due("an empty LAW is one", c.runs(0, 0), 0);
  }

  private static void interest() {
    BrassBalls b = shop("upto 20 take 1 per 5;upto 100 take 3 per 10;least 2;");
    due("of the first upto", b.interest(0, 20, 0, 0), 4);
    due("of the second", b.interest(0, 21, 0, 0), 9);
    due("least", b.interest(0, 5, 0, 1), 2);
    due("least not reached", b.interest(0, 5, 0, 4), 3);
    due("one WEEK", b.interest(0, 21, 7, 8), 9);
    due("two WEEKS", b.interest(0, 21, 7, 9), 18);
    due("three WEEKS", b.interest(0, 21, 7, 10), 18);
    due("longest", b.interest(0, 100, 0, 300), 30 * 151);
    due("above all", b.interest(0, 101, 0, 0), -5);
    due("the shop", b.interest(2, 5, 0, 0), -2);
    due("the shop", b.interest(-1, 0, 0, 0), -2);
    due("the loan", b.interest(0, 0, 0, 0), -3);
    due("the loan", b.interest(0, 1000, 0, 0), -3);
    due("999", b.interest(0, 999, 0, 0), -5);
    due("from", b.interest(0, 5, -1, 0), -3);
    due("to", b.interest(0, 5, 0, 301), -3);
    due("from above to", b.interest(0, 5, 5, 4), -3);
    due("most", shop("upto 999 take 99 per 1;").interest(0, 999, 0, 300), 151 * 99 * 999);
    due("no LAW", new BrassBalls().interest(0, 1, 0, 0), -5);
  }

  private static void kind() {
    BrassBalls b = new BrassBalls();
    int[][] bad = {{0, 1, 1, 0}, {10, 1, 1, 0}, {1, 0, 1, 0}, {1, 2, 1, 0}, {1, 1, 1000, 0}, {1, 1000, 1000, 0}, {1, 1, 1, -1}, {1, 1, 1, 100}, {MIN, MAX, MAX, MAX}};
    for (int i = 0; i < 12; i++) {
      for (int[] k : bad) {
        due("a number", b.kind(k[0], k[1], k[2], k[3], true), -3);
      }
      due("kind", b.kind(1 + 8 * (i % 2), 1 + i % 2 * 998, 999, 99 * (i % 2), i % 2 == 0), i);
      due("count(0)", b.count(0), i + 1);
    }
    due("the 13th", b.kind(1, 1, 1, 1, true), -4);
    due("the number first", b.kind(0, 1, 1, 1, true), -3);
  }

  private static void person() {
    BrassBalls b = new BrassBalls();
    int[][] bad = {{-1, 0, 0, 0}, {1000, 0, 0, 0}, {0, -1, 0, 0}, {0, 1000, 0, 0}, {0, 0, -1, 0}, {0, 0, 1000, 0}, {0, 0, 0, -1}, {0, 0, 0, 10000}};
    for (int i = 0; i < 16; i++) {
      for (int[] k : bad) {
        due("a number", b.person(k[0], k[1], k[2], k[3]), -3);
      }
      due("person", b.person(999 * (i % 2), 999, 999, 9999), i);
      due("purse", b.purse(i), 19998);
    }
    due("the 17th", b.person(0, 0, 0, 0), -4);
    due("the number first", b.person(0, 0, 0, -1), -3);
    due("count(1)", b.count(1), 16);
  }

  private static void purse() {
    BrassBalls b = busy(PLAIN + "ticket 20;");
    due("half pence", b.purse(0), 200);
    due("none", b.purse(2), -1000000);
    due("none", b.purse(-1), -1000000);
    due("none", b.purse(MAX), -1000000);
    b.person(0, 0, 0, 0);
    b.pledge(0, 2, 1);
    due("below 0", b.purse(2), -18);
    b.weeks(5);
    due("WEEKS change nothing", b.purse(0), 200);
  }

  private static void weeks() {
    BrassBalls b = new BrassBalls();
    due("0", b.weeks(0), -3);
    due("53", b.weeks(53), -3);
    due("-1", b.weeks(-1), -3);
    due("MAX", b.weeks(MAX), -3);
    due("1", b.weeks(1), 1);
    for (int i = 1; i <= 5; i++) {
      due("52", b.weeks(52), 1 + 52 * i);
    }
    due("313", b.weeks(52), -5);
    due("301", b.weeks(40), -5);
    due("WEEK stays", b.count(8), 261);
    due("300", b.weeks(39), 300);
    due("301", b.weeks(1), -5);
    due("the number first", b.weeks(0), -3);
  }

  private static void pledge() {
    BrassBalls b = busy("upto 50 take 1 per 10;ticket 3;");
    due("first", b.pledge(0, 0, 21), 148);
    due("twice the loan less ticket", b.purse(0), 200 + 42 - 3);
    due("second", b.pledge(1, 1, 50), 279);
    due("KIND", b.pledge(2, 0, 0), -2);
    due("KIND", b.pledge(-1, 0, 5), -2);
    due("PERSON", b.pledge(0, 2, 0), -2);
    due("PERSON", b.pledge(0, MIN, 5), -2);
    due("the loan", b.pledge(0, 0, 0), -3);
    due("the loan", b.pledge(0, 0, 1000), -3);
    due("too much", b.pledge(0, 0, 51), -5);
    due("too much", b.pledge(0, 0, 999), -5);
    due("count(2)", b.count(2), 2);
    for (int i = 2; i < 60; i++) {
      due("pledge " + i, b.pledge(0, 0, 1) > 0 ? 1 : 0, 1);
    }
    due("the 61st", b.pledge(0, 0, 1), -4);
    due("full first", b.pledge(0, 0, 51), -4);
    due("the loan first", b.pledge(0, 0, 1000), -3);
    due("count(3)", b.count(3), 60);
    BrassBalls c = busy(PLAIN);
    c.pledge(0, 0, 1);
    for (int i = 1; i < 150; i++) {
      c.swear(0);
    }
    due("no TICKET", c.pledge(0, 0, 1), -4);
    due("one PLEDGE", c.count(2), 1);
  }

  private static void ticket() {
    BrassBalls b = busy(PLAIN);
    due("never", b.ticket(148), 3);
    b.pledge(0, 0, 5);
    due("LIVES", b.ticket(148), 0);
    due("figures", b.ticket(147), 2);
    due("figures", b.ticket(149), 2);
    due("figures", b.ticket(248), 2);
    due("never", b.ticket(279), 3);
    due("no serial", b.ticket(17), 2);
    due("no serial", b.ticket(0), 2);
    due("no serial", b.ticket(-148), 2);
    due("no serial", b.ticket(MIN), 2);
    due("figures", b.ticket(MAX), 2);
    b.swear(0);
    due("DEAD", b.ticket(148), 1);
    due("LIVES", b.ticket(279), 0);
    for (int i = 0; i < 148; i++) {
      b.swear(0);
    }
    due("serial 150", b.ticket(100 * 150 + (31 * 150 + 17) % 97), 0);
    due("serial 151", b.ticket(100 * 151 + (31 * 151 + 17) % 97), 3);
    due("a great serial", b.ticket(2147483600 - 100 + (31 * 21474835 + 17) % 97), 3);
  }

  private static void held() {
    BrassBalls b = busy(PLAIN);
    b.pledge(0, 0, 5);
    b.pledge(1, 1, 20);
    due("the PLEDGE", b.held(279, 0), 1);
    due("who", b.held(279, 1), 1);
    due("DUE", b.held(279, 2), 42);
    b.sell(279, 0, 1);
    due("another", b.held(279, 1), 0);
    b.weeks(4);
    due("DUE later", b.held(279, 2), 46);
    due("what", b.held(279, 3), -2);
    due("what", b.held(279, -1), -2);
    due("forged", b.held(280, 0), -2);
    due("never", b.held(313, 0), -2);
    tell(b, 0, "upto 10 take 9 per 1;least 7;");
    due("above every upto: least", b.held(279, 2), 47);
    b.fetch(279);
    due("DEAD", b.held(279, 0), -2);
  }

  private static void fetch() {
    BrassBalls b = busy(PLAIN + "hold 2;");
    b.pledge(0, 0, 10);
    b.pledge(1, 0, 20);
    b.person(0, 0, 0, 10);
    b.rack(5, 1);
    b.put(0, 0);
    due("none", b.fetch(313), -2);
    due("forged", b.fetch(149), -2);
    b.sell(148, 2, 0);
    due("20 of 21", b.fetch(148), -8);
    tell(b, 1, "seek if by 0;");
    b.hold(0);
    due("HELD first", b.fetch(148), -5);
    b.weeks(1);
    due("HELD", b.fetch(279), -5);
    b.weeks(1);
    due("not any more", b.fetch(279), 40 + 4);
    due("the holder paid", b.purse(0), 200 + 20 + 40 - 44);
    due("FETCHED", b.of(1, 5), 1);
    due("again", b.fetch(279), -2);
    due("DEAD", b.ticket(279), 1);
    tell(b, 0, "upto 20 take 0 per 1;");
    due("just enough", b.fetch(148), 20);
    due("nothing left", b.purse(2), 0);
    due("off its RACK", b.of(0, 4), -1);
    due("room", b.count(20), 5);
    due("INTEREST", b.book(2, 1), 4);
    due("FETCHED", b.book(2, 3), 2);
    due("what came back", b.worst(1, 1), 60);
    due("what came back", b.worst(3, 1), 60 - 64);
  }

  private static void renew() {
    BrassBalls b = busy(PLAIN + "ticket 3;");
    b.pledge(0, 0, 20);
    b.person(0, 0, 0, 3);
    b.sell(148, 2, 0);
    b.weeks(2);
    due("7 is needed, 6 there", b.renew(148), -8);
    b.sell(148, 1, 0);
    due("renew", b.renew(148), 279);
    due("the holder paid", b.purse(1), 200 - 7);
    due("the owner didn't", b.purse(0), 200 + 40 - 3);
    due("WEEK", b.of(0, 3), 2);
    due("DEAD", b.ticket(148), 1);
    due("the same holder", b.held(279, 1), 1);
    due("the old one", b.renew(148), -2);
    due("INTEREST alone", b.book(2, 1), 4);
    due("came back", b.worst(3, 1), 36);
    for (int i = 2; i < 150; i++) {
      b.swear(0);
    }
    due("TICKETS", b.renew(100 * 150 + (31 * 150 + 17) % 97), -4);
    due("the number first", b.renew(148), -2);
    BrassBalls c = busy(PLAIN);
    c.person(0, 0, 0, 5);
    c.pledge(0, 2, 10);
    tell(c, 0, "least 29;ticket 2;");
    due("31 of 30", c.renew(148), -8);
    tell(c, 0, "least 28;ticket 2;hold 9;");
    tell(c, 1, "seek if cloth;");
    c.hold(0);
    due("30 of 30, also HELD", c.renew(148), 279);
    due("nothing left", c.purse(2), 0);
  }

  private static void swear() {
    BrassBalls b = busy(PLAIN + "sworn 30;ticket 3;");
    b.person(0, 0, 0, 0);
    b.pledge(0, 2, 15);
    due("no such", b.swear(1), -2);
    due("no such", b.swear(-1), -2);
    due("30 of 27", b.swear(0), -8);
    b.sell(148, 0, 1);
    due("30 of 29", b.swear(0), -8);
    tell(b, 0, PLAIN + "sworn 29;");
    due("29 of 29", b.swear(0), 279);
    due("nothing left", b.purse(2), 0);
    due("the holder's is DEAD", b.ticket(148), 1);
    due("whose it is", b.held(279, 1), 2);
    due("WEEK stays", b.of(0, 3), 0);
    due("no INTEREST", b.book(0, 1), 0);
    tell(b, 0, PLAIN);
    b.pledge(1, 0, 1);
    due("another PLEDGE's", b.swear(0), 444);
    due("LIVES", b.ticket(313), 0);
    b.fetch(313);
    due("not HERE", b.swear(1), -5);
    for (int i = 4; i < 150; i++) {
      b.swear(0);
    }
    due("TICKETS", b.swear(0), -4);
    due("TICKETS first", b.swear(1), -4);
    due("the PLEDGE first", b.swear(2), -2);
    BrassBalls c = busy(PLAIN + "ticket 20;");
    c.person(0, 0, 0, 0);
    c.pledge(0, 2, 1);
    due("a PURSE below 0", c.swear(0), -8);
  }

  private static void sell() {
    BrassBalls b = busy(PLAIN);
    b.pledge(0, 0, 5);
    due("no number", b.sell(147, 1, 1), -2);
    due("no PERSON", b.sell(148, 2, 1000), -2);
    due("no PERSON", b.sell(148, -1, 1), -2);
    due("the price", b.sell(148, 1, -1), -3);
    due("the price", b.sell(148, 1, 1000), -3);
    due("holds it", b.sell(148, 0, 1), -3);
    due("101 of 100 pence", b.sell(148, 1, 101), -8);
    due("999", b.sell(148, 1, 999), -8);
    due("100 pence", b.sell(148, 1, 100), 0);
    due("buyer", b.purse(1), 0);
    due("seller", b.purse(0), 410);
    due("back", b.sell(148, 0, 3), 0);
    due("it was the other's", b.purse(1), 6);
    due("for nothing", b.sell(148, 1, 0), 0);
    due("the PLEDGE's PERSON", b.of(0, 1), 0);
    b.swear(0);
    due("DEAD", b.sell(148, 0, 0), -2);
  }

  private static void of() {
    BrassBalls b = busy(PLAIN + "moth 5;");
    b.pledge(0, 1, 7);
    b.weeks(3);
    b.pledge(1, 0, 9);
    b.rack(9, 0);
    b.rack(9, 0);
    b.put(1, 1);
    int[] want = {1, 0, 9, 3, 1, 0, 0, 100, 100};
    for (int what = 0; what < 9; what++) {
      due("of " + what, b.of(1, what), want[what]);
    }
    due("no RACK", b.of(0, 4), -1);
    due("whose", b.of(0, 1), 1);
    due("LOW", b.of(0, 7), 10);
    b.weeks(6);
    due("9 WEEKS", b.of(0, 7), 10);
    b.weeks(1);
    due("10 WEEKS", b.of(0, 7), 9);
    due("10 WEEKS", b.of(0, 8), 13);
    b.weeks(52);
    due("62 WEEKS", b.of(0, 7), 7);
    due("62 WEEKS", b.of(0, 8), 9);
    due("no CLOTH", b.of(1, 7), 100);
    tell(b, 0, PLAIN + "moth 20;");
    due("0 hundredths", b.of(0, 8), 0);
    due("what", b.of(0, 9), -1000);
    due("what", b.of(0, -1), -1000);
    due("none", b.of(2, 0), -1000);
    due("none", b.of(-1, 0), -1000);
    tell(b, 1, "seek if by 0;");
    b.hold(0);
    due("HELD", b.of(1, 6), 1);
    due("not HELD", b.of(0, 6), 0);
    b.fetch(148);
    due("FETCHED", b.of(0, 5), 1);
  }

  private static void passed() {
    BrassBalls b = busy(PLAIN + "year 4;");
    b.pledge(0, 0, 5);
    b.pledge(0, 0, 5);
    b.weeks(3);
    due("none yet", b.passed(-1), 0);
    due("none yet", b.passed(0), -1);
    b.pledge(0, 0, 5);
    b.renew(148);
    b.weeks(1);
    due("just now", b.passed(-1), 1);
    due("the second", b.passed(0), 1);
    due("not so many", b.passed(1), -1);
    due("below", b.passed(-2), -1);
    b.weeks(3);
    due("all", b.passed(-1), 3);
    due("in order", b.passed(2), 2);
    b.sale(1, 0);
    due("SOLD", b.passed(-1), 2);
    due("without it", b.passed(1), 2);
    tell(b, 0, PLAIN);
    due("52 without", b.passed(-1), 0);
    b.weeks(47);
    due("51", b.passed(-1), 0);
    b.weeks(1);
    due("52", b.passed(-1), 1 + 1);
  }

  private static void sale() {
    BrassBalls b = busy(PLAIN + "year 4;hold 3;");
    b.pledge(0, 0, 20);
    b.pledge(1, 1, 50);
    b.pledge(1, 1, 50);
    b.rack(9, 1);
    b.put(0, 0);
    b.weeks(3);
    due("not PASSED", b.sale(0, 30), -1000000);
    tell(b, 1, "seek if by 0;");
    b.hold(0);
    b.weeks(2);
    due("HELD", b.sale(0, 30), -1000000);
    b.weeks(1);
    due("the price", b.sale(0, -1), -1000000);
    due("the price", b.sale(0, 10000), -1000000);
    due("none", b.sale(3, 1), -1000000);
    due("none", b.sale(-1, 1), -1000000);
    due("OVER", b.sale(0, 30), 60 - 48);
    due("INTEREST met", b.book(6, 1), 8);
    due("again", b.sale(0, 30), -1000000);
    due("DEAD", b.ticket(148), 1);
    due("off its RACK", b.count(20), 9);
    due("RACK", b.of(0, 4), -1);
    due("SHORT", b.sale(1, 55), 110 - 120);
    due("INTEREST met in part", b.book(6, 1), 8 + 10);
    due("SHORT of the loan", b.sale(2, 40), 80 - 120);
    due("INTEREST not met", b.book(6, 1), 18);
    due("SOLD", b.book(6, 4), 3);
    due("what came back", b.worst(7, 1), 240 - 48 - 110 - 80);
    due("the PURSE later", b.purse(0), 240);
    due("state", b.of(0, 5), 2);
    b.pledge(0, 0, 1);
    b.weeks(4);
    due("9999", b.sale(3, 9999), 19998 - 5);
    due("OVER", b.over(3), 19998 - 5);
  }

  private static void over() {
    BrassBalls b = busy(PLAIN + "year 4;");
    for (int i = 0; i < 4; i++) {
      b.pledge(0, 0, 20);
    }
    b.sell(148, 1, 0);
    b.weeks(4);
    due("HERE", b.over(0), -5);
    b.sale(0, 30);
    b.sale(1, 10);
    b.sale(2, 40);
    due("no such", b.over(4), -2);
    due("no such", b.over(-1), -2);
    due("OVER", b.over(0), 60 - 46);
    due("whose it was", b.purse(0), 200 + 160 + 14);
    due("again", b.over(0), 0);
    due("SHORT", b.over(1), 0);
    b.fetch(579);
    b.weeks(51);
    due("51 WEEKS", b.over(2), 80 - 46);
    b.weeks(1);
    due("52 WEEKS", b.over(2), -5);
    due("52 WEEKS", b.over(0), -5);
    due("not SOLD", b.over(3), -5);
  }

  private static void lend() {
    BrassBalls b = busy(PLAIN);
    due("none comes back", b.lend(0, 0, 1), 11);
    due("half is glass", b.lend(1, 0, 1), 0);
    due("all come back", b.lend(1, 100, 1), 100);
    due("KIND", b.lend(2, 101, 0), -2);
    due("KIND", b.lend(-1, 0, 1), -2);
    due("BACK", b.lend(0, 101, 1), -3);
    due("BACK", b.lend(0, -1, 1), -3);
    due("HALVES", b.lend(0, 0, 0), -3);
    due("HALVES", b.lend(0, 0, 53), -3);
    due("a loan of 1 to 6 can't lose", shopOfOne(30).lend(0, 0, 1), 4);
    due("no LAW", shopOfOneBy("").lend(0, 100, 1), 0);
    due("52 HALVES", b.lend(1, 50, 52), 100);
  }

  private static BrassBalls shopOfOneBy(String law) {
    BrassBalls b = shop(law);
    b.kind(1, 6, 6, 30, false);
    return b;
  }

  /** Things are worth 6 pence, 30 of a hundred are glass: 8.4 half pence on the mean, of which a loan may be 4 pence. */
  private static BrassBalls shopOfOne(int upto) {
    return shopOfOneBy("upto " + upto + " take 9 per 30;");
  }

  private static void gained() {
    BrassBalls b = busy(PLAIN);
    // of 10, 11, 12, 13, 14 pence: 20, 22, 24, 24, 24 (of 24 with INTEREST 2: 26), less 24
    due("none comes back", b.gained(0, 12, 0, 1), 1000L * 100 * (20 + 22 + 24 + 26 + 26 - 5 * 24) / 5);
    due("all come back", b.gained(0, 12, 100, 3), 600000);
    due("half of glass", b.gained(1, 10, 0, 1), -950000);
    due("some come back", b.gained(1, 10, 60, 1), 60000 - 380000);
    BrassBalls c = shop("upto 99 take 1 per 99;");
    c.kind(1, 10, 12, 0, false);
    // of 20, 22, 23 half pence 22 go; a third of a hundred
    due("cut towards 0", c.gained(0, 11, 0, 1), -33333);
    due("cut towards 0", c.gained(0, 11, 1, 1), 1000 - 33000);
    BrassBalls d = shop("upto 99 take 2 per 99;");
    d.kind(1, 10, 12, 0, false);
    due("nothing", d.gained(0, 11, 0, 1), 0);
    due("some", d.gained(0, 11, 0, 2), 0);
    BrassBalls e = shop("upto 99 take 3 per 99;");
    e.kind(1, 10, 15, 0, false);
    // 20, 22, 24, 25, 25, 25 less 22 each: 9 of 6
    due("above 0", e.gained(0, 11, 0, 1), 150000);
    e.kind(1, 11, 13, 0, false);
    due("a third", e.gained(1, 11, 0, 1), 166666);
    due("KIND", b.gained(2, 0, 0, 1), -2);
    due("the loan", b.gained(0, 0, 0, 1), -3);
    due("the loan", b.gained(0, 1000, 0, 1), -3);
    due("BACK", b.gained(0, 1, -1, 1), -3);
    due("BACK", b.gained(0, 1, 101, 1), -3);
    due("HALVES", b.gained(0, 1, 0, 0), -3);
    due("HALVES", b.gained(0, 1, 0, 53), -3);
    due("too much", b.gained(0, 101, 0, 1), -5);
    BrassBalls most = shop("upto 999 take 99 per 1;");
    most.kind(1, 1, 999, 0, false);
    due("the most", most.gained(0, 999, 100, 52), 1000L * 100 * 52 * 99 * 999);
  }

  private static void rack() {
    BrassBalls b = new BrassBalls();
    int[][] bad = {{0, 0}, {100, 0}, {1, -1}, {1, 100}, {MIN, MIN}, {MAX, MAX}};
    for (int i = 0; i < 10; i++) {
      for (int[] r : bad) {
        due("a number", b.rack(r[0], r[1]), -3);
      }
      due("rack", b.rack(1 + 98 * (i % 2), 99 * (i % 2)), i);
      due("room", b.count(20 + i), 1 + 98 * (i % 2));
    }
    due("the 11th", b.rack(1, 1), -4);
    due("the number first", b.rack(0, 1), -3);
    due("count(4)", b.count(4), 10);
  }

  private static void put() {
    BrassBalls b = busy(PLAIN);
    b.pledge(0, 0, 5);
    b.pledge(1, 0, 5);
    b.pledge(0, 0, 5);
    b.rack(5, 1);
    b.rack(3, 1);
    due("PLEDGE", b.put(3, 0), -2);
    due("PLEDGE", b.put(-1, 0), -2);
    due("RACK", b.put(0, 2), -2);
    due("RACK", b.put(0, -1), -2);
    due("put", b.put(0, 0), 2);
    due("lies there", b.put(0, 0), -5);
    due("full", b.put(1, 0), 0);
    due("no room", b.put(2, 0), -5);
    due("onto another", b.put(0, 1), 0);
    due("room again", b.count(20), 3);
    due("put", b.put(2, 0), 0);
    b.fetch(148);
    due("not HERE", b.put(0, 1), -5);
    due("room again", b.count(21), 3);
  }

  private static BrassBalls onRacks() {
    BrassBalls b = busy(PLAIN);
    b.rack(99, 7);
    b.rack(99, 2);
    b.rack(99, 0);
    for (int i = 0; i < 10; i++) {
      b.pledge(i % 2, 0, 5);
      b.put(i, i % 3);
    }
    b.pledge(0, 0, 5);
    return b;
  }

  private static void rush() {
    BrassBalls b = onRacks();
    due("none", b.rush(0, 0), 0);
    due("there and back", b.rush(0, 1), 14);
    due("together", b.rush(0, 7), 18);
    due("from one on", b.rush(1, 7), 18);
    due("all", b.rush(1, 255), 4 + 0 + 14 + 4 + 0 + 14 + 4 + 0);
    due("bits", b.rush(0, 256), -3);
    due("bits", b.rush(0, -1), -3);
    due("on no RACK", b.rush(3, 255), -5);
    due("none such", b.rush(4, 128), -5);
    due("none such", b.rush(-1, 1), -5);
    due("none such", b.rush(MAX, 2), -5);
    due("none such", b.rush(MIN, 128), -5);
    b.fetch(148);
    due("not HERE", b.rush(0, 1), -5);
    due("without it", b.rush(0, 2), 4);
  }

  private static void best() {
    BrassBalls b = busy(PLAIN);
    row(b, 0, 0, 1, 5, 3);
    due("the ROW", b.best(4, 0, -1), -2);
    due("the ROW", b.best(-1, 1, -1), -2);
    due("n", b.best(0, 0, -1), -3);
    due("n", b.best(0, 8, -1), -3);
    due("n first", b.best(1, 8, -1), -3);
    due("not so many PLEDGES", b.best(1, 1, -1), -5);
    for (int i = 0; i < 4; i++) {
      b.pledge(0, 0, 5);
    }
    due("MISSING", b.best(1, 3, -1), -6);
    due("too short", b.best(0, 4, -1), -7);
    due("no RACKS", b.best(0, 3, -1), -1);
    b.rack(3, 4);
    b.rack(6, 9);
    b.rack(3, 0);
    // the heaviest to 0 steps, the next to 4, the lightest to 9
    due("sum", b.best(0, 3, -1), 9 + 0 + 12);
    due("the first", b.best(0, 3, 0), 1);
    due("the second", b.best(0, 3, 1), 2);
    due("the third", b.best(0, 3, 2), 0);
    due("not so many", b.best(0, 3, 3), -1);
    due("below", b.best(0, 3, -2), -1);
    row(b, 1, 3, 0, 2, 0, 2, 1L << 32);
    due("like ones", b.best(1, 4, 0), 1);
    due("like ones", b.best(1, 4, 1), 0);
    due("like ones", b.best(1, 4, 2), 1);
    due("like ones", b.best(1, 4, 3), 2);
    due("sum", b.best(1, 4, -1), 8);
    b.pledge(1, 0, 5);
    due("a weight of 64 bits", b.best(1, 5, -1), -3);
    row(b, 2, 1, 99, 100);
    due("99", b.best(2, 1, -1), 0);
    due("100", b.best(2, 2, -1), -3);
    row(b, 2, 1, -1);
    due("-1", b.best(2, 1, -1), -3);
    b.put(0, 2);
    row(b, 2, 1, 7);
    due("the first on no RACK", b.best(2, 1, -1), 28);
    row(b, 2, 1, 1, 1, 1, 1);
    due("no room", b.best(2, 4, -1), -1);
    due("no room", b.best(2, 4, 0), -1);
  }

  private static void life() {
    BrassBalls b = shop("upto 50 take 1 per 10;ticket 2;");
    b.kind(1, 1, 1, 0, true);
    b.person(10, 6, 6, 1);
    due("0 left behind the first WEEK", b.life(0, 0, 5, 1, 1), -1);
    // 2, -2 and 10 - 2 more: 6; no 11 to pay: 2; -2
    due("the third", b.life(0, 0, 5, 104, 0), 2);
    due("two WEEKS", b.life(0, 0, 5, 2, 0), -1);
    due("three WEEKS", b.life(0, 0, 5, 3, 0), 2);
    b.person(0, 1, 0, 0);
    due("a ticket alone doesn't do", b.life(1, 0, 1, 5, 0), 0);
    b.person(10, 5, 5, 0);
    due("for ever", b.life(2, 0, 1, 104, 0), -1);
    // out with 11 again, 4 below 0 each WEEK: 14, 10; 10 - 4 = 6, 2, -2: 8 - 2; 6
    due("with more", b.life(0, 0, 5, 104, 6), 5);
    due("PERSON", b.life(3, 0, 0, 1, 0), -2);
    due("KIND", b.life(0, 1, 0, 1, 0), -2);
    due("the loan", b.life(0, 0, 0, 1, 0), -3);
    due("the loan", b.life(0, 0, 1000, 1, 0), -3);
    due("WEEKS", b.life(0, 0, 1, 0, 0), -3);
    due("WEEKS", b.life(0, 0, 1, 105, 0), -3);
    due("more", b.life(0, 0, 1, 1, -1), -3);
    due("more", b.life(0, 0, 1, 1, 1000), -3);
    due("can't be lent", b.life(0, 0, 51, 1, 0), -5);
    BrassBalls c = shop("upto 50 take 10 per 50;");
    c.kind(1, 1, 1, 0, true);
    c.person(40, 20, 20, 30);
    c.person(20, 10, 11, 0);
    // -2 and 20: 18, no 30 to pay; 16 .. 0 and -2 in the tenth
    due("the suit stays there", c.life(1, 0, 10, 104, 0), 10);
    due("no suit is needed", c.life(0, 0, 10, 104, 0), -1);
  }

  private static void needs() {
    BrassBalls b = shop("upto 50 take 1 per 10;ticket 2;");
    b.kind(1, 1, 1, 0, true);
    b.person(10, 6, 6, 1);
    due("none", b.needs(0, 0, 5, 2), 0);
    due("three WEEKS", b.needs(0, 0, 5, 3), 1);
    b.person(0, 999, 999, 0);
    due("too much", b.needs(1, 0, 5, 104), -1);
    due("one WEEK", b.needs(1, 0, 50, 1), -1);
    b.person(1000 - 1, 999, 999, 0);
    due("999 and the suit", b.needs(2, 0, 1, 1), 999);
    due("PERSON", b.needs(3, 0, 0, 1), -2);
    due("KIND", b.needs(0, 1, 0, 1), -2);
    due("the loan", b.needs(0, 0, 0, 1), -3);
    due("WEEKS", b.needs(0, 0, 1, 105), -3);
    due("can't be lent", b.needs(0, 0, 51, 1), -5);
  }

  private static void lots() {
    BrassBalls b = shop("upto 50 take 1 per 10;year 1;moth 20;");
    int[] low = {5, 1, 4, 2, 3, 3};
    b.person(0, 0, 0, 0);
    for (int i = 0; i < 6; i++) {
      b.kind(1, low[i], 9, 0, i == 0);
      b.pledge(i, 0, 5);
    }
    due("not PASSED", b.lots(1, -1), -5);
    b.weeks(1);
    due("one", b.lots(1, -1), 18);
    due("one", b.lots(1, 0), 6);
    due("two", b.lots(2, -1), 10);
    due("5 1 | 4 2 3 3 is 12, 5 1 4 | 8", b.lots(2, 0), 3);
    due("the second", b.lots(2, 1), 3);
    due("not so many", b.lots(2, 2), -1);
    due("below", b.lots(2, -2), -1);
    // 5 1 | 4 2 | 3 3
    due("three", b.lots(3, -1), 6);
    due("three", b.lots(3, 0), 2);
    // 5 alone goes before 5 1: 5 | 1 4 | 2 3 | 3
    due("four", b.lots(4, -1), 5);
    due("four", b.lots(4, 0), 1);
    due("four", b.lots(4, 2), 2);
    due("six", b.lots(6, 5), 1);
    due("fewer PLEDGES", b.lots(7, -1), -5);
    due("n", b.lots(0, -1), -3);
    due("n", b.lots(11, -1), -3);
    b.weeks(19);
    due("moth of 5: 4", b.lots(1, -1), 18 - 2 + 0);
    for (int i = 0; i < 6; i++) {
      b.pledge(5, 0, 5);
    }
    b.weeks(1);
    due("ten of twelve", b.lots(1, 0), 10);
    due("ten LOTS", b.lots(10, 9), 1);
    due("of like ones the shortest first", b.lots(2, 0), 5);
  }

  private static void fits() {
    BrassBalls b = busy(PLAIN);
    tell(b, 1, "seek if cloth;seek if kind 1;seek if size 3 and by 1;seek if above 5;seek if since 2 or by 1 and not cloth;"
        + "seek if not (cloth or by 1);seek if (since 2 or by 1) and not cloth;seek if not not by 0;");
    b.pledge(0, 0, 5);
    b.pledge(1, 1, 6);
    b.weeks(2);
    b.pledge(0, 1, 7);
    b.pledge(1, 0, 8);
    int[] want = {0b0101, 0b1010, 0b0100, 0b1110, 0b1110, 0b1000, 0b1010, 0b1001};
    for (int look = 0; look < 8; look++) {
      due("how many fit " + look, b.fits(look, -1), Integer.bitCount(want[look]));
      int i = 0;
      for (int p = 0; p < 4; p++) {
        if ((want[look] >> p & 1) == 1) {
          due("fits " + look, b.fits(look, i), p);
          i++;
        }
      }
      due("not so many", b.fits(look, i), -1);
    }
    due("no such", b.fits(8, -1), -2);
    due("no such", b.fits(-1, -1), -2);
    due("below", b.fits(0, -2), -1);
    b.renew(148);
    due("WEEK by renewing", b.fits(6, -1), 2);
    due("since", b.fits(4, 0), 0);
    b.sell(313, 0, 0);
    due("by whose it is", b.fits(2, 0), 2);
    b.fetch(313);
    due("not HERE", b.fits(2, -1), 0);
  }

  private static void hold() {
    BrassBalls b = busy(PLAIN + "hold 3;year 1;");
    tell(b, 1, "seek if by 0;seek if cloth;");
    b.pledge(0, 0, 5);
    b.pledge(0, 1, 6);
    due("no such", b.hold(2), -2);
    due("no such", b.hold(-1), -2);
    due("one", b.hold(0), 1);
    b.weeks(1);
    b.pledge(0, 0, 5);
    due("what came later", b.of(2, 6), 0);
    due("HELD", b.fetch(148), -5);
    tell(b, 0, PLAIN + "hold 1;");
    due("three", b.hold(1), 3);
    due("HELD", b.of(1, 6), 1);
    b.weeks(1);
    due("the latest end counts", b.of(0, 6), 1);
    due("1 WEEK", b.of(1, 6), 0);
    b.weeks(1);
    due("3 WEEKS", b.of(0, 6), 0);
    tell(b, 0, PLAIN);
    b.hold(0);
    b.weeks(1);
    due("2 without", b.of(0, 6), 1);
    b.weeks(1);
    due("2 without", b.of(0, 6), 0);
    due("fetch", b.fetch(148), 13);
  }

  private static void runs() {
    BrassBalls b = busy("upto 10 take 1 per 10;least 2;");
    due("PERSON first", b.runs(2, 0), -2);
    due("what first", b.runs(0, 2), -2);
    due("none", b.runs(0, 0), -5);
    b.other();
    tell(b, 0, "upto 50 take 3 per 10;");
    b.pledge(0, 0, 10);
    b.pledge(0, 0, 11);
    b.pledge(0, 1, 9);
    due("not what can't be lent there", b.runs(0, 0), 1);
    due("SAVED", b.runs(0, 1), 1);
    b.weeks(2);
    due("SAVED later", b.runs(0, 1), 6 - 2);
    b.pledge(0, 0, 8);
    due("two", b.runs(0, 0), 2);
    due("SAVED", b.runs(0, 1), 4 + 1);
    tell(b, 0, "upto 50 take 2 per 10;");
    due("as much is not less", b.runs(0, 0), 1);
    due("as much is not less", b.runs(0, 1), 2);
    tell(b, 0, "least 9;");
    due("least here", b.runs(0, 1), 7 + 7);
    b.sell(148, 1, 0);
    due("its own, whoever holds it", b.runs(0, 0), 2);
    b.fetch(148);
    due("not HERE", b.runs(0, 0), 1);
    due("PERSON", b.runs(-1, 0), -2);
    due("what", b.runs(0, -1), -2);
  }

  private static void chain() {
    BrassBalls b = busy(PLAIN + "year 1;");
    due("none", b.chain(0), 0);
    due("PERSON", b.chain(2), -2);
    due("PERSON", b.chain(-1), -2);
    int first = b.pledge(0, 0, 5);
    due("one", b.chain(0), 1);
    b.pledge(0, 0, 5);
    b.weeks(1);
    b.sell(first, 1, 0);
    b.fetch(first);
    b.pledge(0, 1, 5);
    due("another's", b.chain(0), 1);
    due("another's", b.chain(1), 1);
    int third = b.pledge(0, 0, 5);
    due("two, fetched by another", b.chain(0), 2);
    b.weeks(1);
    third = b.renew(third);
    due("made, not renewed", b.chain(0), 2);
    b.fetch(third);
    b.weeks(1);
    b.pledge(0, 0, 5);
    due("a WEEK too late", b.chain(0), 2);
    b.sale(1, 50);
    b.pledge(0, 0, 5);
    due("SOLD is not FETCHED", b.chain(0), 2);
    BrassBalls c = busy(PLAIN);
    int a = c.pledge(0, 0, 5);
    c.pledge(0, 0, 5);
    int d = c.pledge(0, 0, 5);
    c.fetch(d);
    due("ahead of it", c.chain(0), 1);
    c.fetch(a);
    due("in the same WEEK", c.chain(0), 2);
    c.pledge(0, 0, 5);
    due("on", c.chain(0), 3);
  }

  private static void book() {
    BrassBalls b = busy(PLAIN + "year 2;ticket 1;sworn 1;");
    b.pledge(0, 0, 20);
    b.pledge(0, 0, 30);
    b.pledge(1, 1, 10);
    b.swear(0);
    int[] first = {120, 0, 3, 0, 0};
    b.weeks(2);
    b.fetch(444);
    b.renew(279);
    b.sale(2, 99);
    b.pledge(0, 0, 1);
    int[] second = {2, 4 + 6 + 2, 1, 1, 1};
    for (int what = 0; what < 5; what++) {
      due("WEEK 0, " + what, b.book(0, what), first[what]);
      due("WEEK 1, " + what, b.book(1, what), 0);
      due("WEEK 2, " + what, b.book(2, what), second[what]);
    }
    due("behind now", b.book(3, 0), -2);
    due("below 0", b.book(-1, 0), -2);
    due("what", b.book(0, 5), -2);
    due("what", b.book(0, -1), -2);
  }

  private static void worst() {
    BrassBalls b = busy(PLAIN);
    due("now alone", b.worst(1, 1), 0);
    b.weeks(1);
    b.pledge(0, 0, 20);
    b.weeks(1);
    b.pledge(0, 0, 20);
    b.weeks(2);
    b.fetch(148);
    due("the first of like ones", b.worst(1, 0), 1);
    due("how much", b.worst(1, 1), 40);
    due("two", b.worst(2, 0), 1);
    due("two", b.worst(2, 1), 80);
    due("three", b.worst(3, 0), 0);
    due("four", b.worst(4, 0), 0);
    due("five", b.worst(5, 1), 80 - 44);
    due("six", b.worst(6, 0), -3);
    due("n", b.worst(0, 0), -3);
    due("what first", b.worst(0, 2), -2);
    due("what", b.worst(1, -1), -2);
    b.weeks(52);
    due("52", b.worst(52, 1), 80 - 44);
    due("53", b.worst(53, 1), -3);
    BrassBalls c = busy(PLAIN);
    c.pledge(0, 0, 10);
    tell(c, 0, PLAIN + "least 9;");
    c.renew(148);
    due("below 0 can be", c.worst(1, 1), 11);
    c.fetch(279);
    due("below 0", c.worst(1, 1), 20 - 9 - 29);
  }

  private static void scribe() {
    BrassBalls b = busy(PLAIN);
    b.pledge(0, 0, 5);
    due("none such", b.scribe(4, 0, 0, 0, 0, 0), -2);
    due("none such", b.scribe(-1, 10, 0, 0, 0, 0), -2);
    for (int i = 0; i < 5; i++) {
      int[] s = {9, 9, 9, 9, 9};
      s[i] = 10;
      due("10", b.scribe(0, s[0], s[1], s[2], s[3], s[4]), -3);
      s[i] = -1;
      due("-1", b.scribe(0, s[0], s[1], s[2], s[3], s[4]), -3);
    }
    due("0 still", b.hand(148, 0, 0, 0, 0, 0), 0);
    due("scribe", b.scribe(0, 9, 1, 2, 3, 4), 0);
    due("his HAND as it is now", b.hand(148, 9, 1, 2, 3, 4), 0);
    due("3", b.scribe(3, 9, 9, 9, 9, 9), 0);
    due("another's", b.hand(148, 9, 9, 9, 9, 9), 1);
  }

  private static void duty() {
    BrassBalls b = busy(PLAIN);
    due("none such", b.duty(4), -2);
    due("none such", b.duty(-1), -2);
    due("0 at first", b.duty(2), 0);
    due("who was", b.duty(3), 2);
    due("count(11)", b.count(11), 3);
    b.scribe(3, 9, 9, 9, 9, 9);
    b.pledge(0, 0, 5);
    b.duty(1);
    due("written by 3", b.hand(148, 9, 9, 9, 9, 9), 0);
    due("written by 3", b.hand(148, 0, 0, 0, 0, 0), 1);
    b.renew(148);
    due("written by 1", b.hand(279, 9, 9, 9, 9, 9), 1);
    due("written by 1", b.hand(279, 0, 0, 0, 0, 0), 0);
    b.duty(3);
    b.swear(0);
    due("written by 3", b.hand(313, 9, 9, 9, 9, 9), 0);
  }

  private static void hand() {
    BrassBalls b = busy(PLAIN);
    b.scribe(1, 5, 5, 5, 5, 5);
    b.scribe(2, 9, 0, 9, 0, 9);
    b.scribe(3, 9, 0, 9, 0, 9);
    b.pledge(0, 0, 5);
    due("never", b.hand(279, 0, 0, 0, 0, 0), -2);
    due("forged", b.hand(147, 0, 0, 0, 0, 10), -2);
    for (int i = 0; i < 5; i++) {
      int[] s = {0, 0, 0, 0, 0};
      s[i] = 10;
      due("10", b.hand(148, s[0], s[1], s[2], s[3], s[4]), -3);
      s[i] = -1;
      due("-1", b.hand(148, s[0], s[1], s[2], s[3], s[4]), -3);
    }
    due("6 FAR", b.hand(148, 0, 2, 2, 2, 0), 0);
    due("7 FAR", b.hand(148, 2, 0, 2, 2, 1), 2);
    due("of 1 rather", b.hand(148, 5, 5, 4, 4, 3), 1);
    due("of 1 just 6", b.hand(148, 7, 7, 6, 5, 4), 1);
    due("of none", b.hand(148, 7, 7, 7, 5, 4), 2);
    b.swear(0);
    due("DEAD too", b.hand(148, 1, 0, 0, 0, 0), 0);
    b.scribe(1, 2, 0, 0, 0, 0);
    due("as far is not less", b.hand(148, 1, 0, 0, 0, 0), 0);
    due("less", b.hand(148, 2, 0, 0, 0, 0), 1);
    b.duty(3);
    b.swear(0);
    due("like HANDS", b.hand(313, 9, 0, 9, 0, 8), 0);
  }

  private static void suit() {
    BrassBalls b = busy("upto 5 take 1 per 1;");
    due("PERSON", b.suit(2, 0, 0), -2);
    due("KIND", b.suit(0, 2, 0), -2);
    due("the loan", b.suit(0, 0, 0), -3);
    due("the loan", b.suit(0, 0, 1000), -3);
    due("need not be lendable", b.suit(0, 0, 999), 0);
    due("suit", b.suit(0, 1, 1), 0);
    b.person(0, 10, 0, 0);
    due("none yet", b.street(1, 0), 0);
    b.suit(2, 0, 5);
    due("SINKS", b.street(1, 0), 4);
    b.suit(2, 0, 6);
    due("in place of the other: can't be lent", b.street(1, 0), 0);
  }

  private static void street() {
    BrassBalls b = shop("upto 50 take 1 per 10;");
    b.kind(1, 1, 1, 0, true);
    for (int i = 0; i < 16; i++) {
      b.person(0, i, 0, 5);
      if (i != 7) {
        b.suit(i, 0, 2);
      }
    }
    // the PURSE of 5 and a suit for 2 do for a RENT of up to 7
    due("one WEEK", b.street(1, 0), 0xff00);
    due("6 would do", b.street(1, 6), 0xc000);
    due("15 WEEKS", b.street(15, 0), 0xffff - 1 - 128);
    due("WEEKS", b.street(0, 0), -3);
    due("WEEKS", b.street(105, 0), -3);
    due("104 WEEKS: 1004 pence and the suit", b.street(104, 999), 0xfc00);
    due("more", b.street(1, -1), -3);
    due("more", b.street(1, 1000), -3);
    due("999", b.street(1, 999), 0);
  }

  private static void shilling() {
    BrassBalls b = shop("upto 50 take 1 per 10;");
    b.kind(1, 1, 1, 0, true);
    int[] rent = {7, 8, 19, 20, 0};
    for (int i = 0; i < 5; i++) {
      b.person(0, rent[i], 0, 5);
      b.suit(i, 0, 2);
    }
    due("12 pence would do", b.shilling(1), 0b00110);
    due("two WEEKS", b.shilling(2), 0b00011);
    due("WEEKS", b.shilling(0), -3);
    due("WEEKS", b.shilling(105), -3);
    due("none", b.shilling(104), 0);
  }

  private static void trips() {
    BrassBalls b = onRacks();
    // 0: size 3, 7 steps; 1: 2, 2; 2: 3, 0; 3: 2, 7; 4: 3, 2; 5: 2, 0; 6: 3, 7; 7: 2, 2
    due("none", b.trips(0, 0, 1), 0);
    due("one", b.trips(0, 1, 3), 14);
    due("a SIZE above ARMS", b.trips(0, 1, 2), -1);
    due("together", b.trips(0, 9, 5), 14);
    due("not together", b.trips(0, 9, 4), 28);
    due("those with 7 steps, the others", b.trips(0, 255, 10), 14 + 4);
    due("all", b.trips(0, 255, 20), 14);
    due("the far ones in two", b.trips(0, 255, 7), 14 + 14 + 4);
    due("bits", b.trips(0, 256, 5), -3);
    due("bits", b.trips(0, -1, 5), -3);
    due("ARMS", b.trips(0, 1, 0), -3);
    due("ARMS", b.trips(0, 1, 100), -3);
    due("none such", b.trips(10, 3, 1), -5);
    due("on no RACK", b.trips(10, 1, 99), -5);
    due("none such", b.trips(-1, 1, 1), -5);
    due("none such", b.trips(MAX, 255, 1), -5);
  }

  private static void renewals() {
    BrassBalls b = busy(PLAIN + "ticket 5;");
    b.pledge(0, 0, 20);
    due("none", b.renewals(0, 0), 0);
    due("nothing", b.renewals(0, 1), 0);
    b.renew(148);
    b.weeks(4);
    b.sell(279, 1, 0);
    b.renew(279);
    b.swear(0);
    due("how often", b.renewals(0, 0), 2);
    due("INTEREST", b.renewals(0, 1), 2 + 6);
    b.fetch(444);
    due("still", b.renewals(0, 0), 2);
    due("PLEDGE", b.renewals(1, 0), -2);
    due("PLEDGE", b.renewals(-1, 0), -2);
    due("what", b.renewals(0, 2), -2);
    due("what", b.renewals(0, -1), -2);
  }

  private static void foresee() {
    BrassBalls b = busy(PLAIN + "year 10;moth 5;");
    due("none", b.foresee(true), 0);
    b.pledge(0, 0, 10);
    b.pledge(1, 0, 50);
    b.weeks(9);
    due("not PASSED", b.foresee(true), 0);
    b.pledge(1, 0, 50);
    b.weeks(1);
    due("LOW", b.foresee(false), 2 * 9 - 20 - 6 + 200 - 100 - 30);
    due("HIGH", b.foresee(true), 2 * 13 - 20 - 6 + 200 - 100 - 30);
    tell(b, 1, "seek if by 0;");
    b.hold(0);
    due("HELD too", b.foresee(false), 62);
    b.weeks(2);
    b.sale(1, 1);
    due("not SOLD", b.foresee(false), 18 - 20 - 7);
  }

  private static void list() {
    BrassBalls b = busy(PLAIN);
    due("KIND", b.list(2, -1), -2);
    due("KIND", b.list(-1, 0), -2);
    due("WEEK", b.list(0, -1), -3);
    due("WEEK", b.list(0, 301), -3);
    for (int i = 0; i < 12; i++) {
      due("list", b.list(i % 2, 300 * (i % 2)), i);
    }
    due("the 13th", b.list(0, 0), -4);
    due("the WEEK first", b.list(0, 301), -3);
    due("count(10)", b.count(10), 12);
  }

  private static void match() {
    BrassBalls b = busy(PLAIN + "year 1;");
    b.list(0, 0);
    b.list(0, 2);
    b.list(1, 0);
    due("none", b.match(-1), 0);
    due("none", b.match(0), -1);
    b.pledge(0, 0, 5);
    b.weeks(1);
    b.renew(148);
    b.weeks(1);
    b.pledge(0, 0, 5);
    due("two", b.match(-1), 2);
    due("the least", b.match(0), 0);
    due("made, not renewed", b.match(1), 1);
    due("another KIND", b.match(2), -1);
    due("none such", b.match(3), -1);
    due("none such", b.match(-2), -1);
    b.fetch(279);
    due("not HERE", b.match(-1), 1);
    due("the first", b.match(0), 1);
    due("none behind all", b.match(1), -1);
    BrassBalls c = busy(PLAIN);
    c.weeks(3);
    c.list(0, 0);
    c.list(0, 3);
    c.list(0, 0);
    c.pledge(0, 0, 5);
    c.pledge(0, 0, 5);
    due("as many as can be", c.match(-1), 2);
    due("the first thing", c.match(0), 0);
    due("the second", c.match(1), 1);
    due("the third", c.match(2), -1);
    BrassBalls d = busy(PLAIN);
    d.list(0, 4);
    d.list(0, 0);
    d.pledge(0, 0, 5);
    d.weeks(4);
    d.pledge(0, 0, 5);
    d.pledge(0, 0, 5);
    due("not what it can't be", d.match(0), 1);
    due("the least", d.match(1), 0);
  }

  private static void row() {
    BrassBalls b = new BrassBalls();
    due("no such ROW", b.row(4, 0, -1), -2);
    due("no such ROW", b.row(-1, 0, 1), -2);
    due("no such sort", b.row(0, 4, -1), -2);
    due("no such sort", b.row(0, -1, 1), -2);
    due("n", b.row(0, 0, -1), -3);
    due("n", b.row(0, 0, 41), -3);
    due("MISSING", b.write(0, 0, 1), -6);
    due("40", b.row(3, 3, 40), 0);
    due("the last", b.write(3, 39, 5), 5);
    due("none behind", b.write(3, 40, 5), -7);
    due("n", b.row(3, 0, 41), -3);
    due("the ROW stays", b.write(3, 39, 300), 300);
    due("in its place", b.row(3, 0, 1), 0);
    due("shorter", b.write(3, 1, 5), -7);
    due("none", b.row(3, 0, 0), 0);
    due("none", b.write(3, 0, 5), -7);
    BrassBalls c = busy(PLAIN);
    row(c, 0, 1, 1, 1, 1);
    c.row(0, 1, 3);
    due("all 0: a loan of 0", c.clerk(0), 0);
  }

  private static void write() {
    BrassBalls b = new BrassBalls();
    due("no such ROW", b.write(4, 0, 1), -2);
    due("no such ROW", b.write(-1, 0, 1), -2);
    due("MISSING", b.write(0, 0, 1), -6);
    long big = 0x123456789abcdef0L;
    for (int row = 0; row < 4; row++) {
      b.row(row, row, 2);
    }
    due("8 bits", b.write(0, 0, big), (byte) 0xf0);
    due("16 bits", b.write(1, 0, big), (short) 0xdef0);
    due("32 bits", b.write(2, 0, big), 0x9abcdef0);
    due("64 bits", b.write(3, 0, big), big);
    due("127", b.write(0, 1, 127), 127);
    due("128", b.write(0, 1, 128), -128);
    due("32767", b.write(1, 1, 32767), 32767);
    due("-32769", b.write(1, 1, -32769), 32767);
    due("2^31", b.write(2, 1, 1L << 31), MIN);
    due("none", b.write(0, 2, 1), -7);
    due("none", b.write(0, -1, 1), -7);
    due("none", b.write(0, MAX, 1), -7);
  }

  private static void clerk() {
    BrassBalls b = busy(PLAIN);
    due("no such ROW", b.clerk(4), -2);
    due("no such ROW", b.clerk(-1), -2);
    due("MISSING", b.clerk(0), -6);
    row(b, 0, 1, 0, 1, 20, 1, 0, 30, 0, 0);
    due("ends within one", b.clerk(0), 2);
    due("PLEDGING", b.of(0, 2), 20);
    due("PLEDGING", b.purse(0), 200 + 60);
    due("another one", b.held(279, 1), 0);
    row(b, 1, 3, 0, 0, 1, 0, 0, 101, 0, 0, 1);
    due("refused", b.clerk(1), 1);
    row(b, 1, 3, 1L << 32, 0, 1);
    due("a KIND of 64 bits", b.clerk(1), 0);
    row(b, 1, 3, 0, 0, (1L << 32) + 1);
    due("a loan of 64 bits", b.clerk(1), 0);
    row(b, 1, 0);
    due("empty", b.clerk(1), 0);
    due("count(2)", b.count(2), 3);
    b.row(2, 1, 39);
    for (int i = 2; i < 39; i += 3) {
      b.write(2, i, 1);
    }
    for (int i = 0; i < 4; i++) {
      due("13", b.clerk(2), 13);
    }
    due("60 in all", b.clerk(2), 5);
    due("full", b.clerk(2), 0);
    BrassBalls c = busy("upto 999 take 1 per 1;");
    row(c, 0, 1, 0, 0, 999);
    due("999 pence", c.clerk(0), 1);
    row(c, 0, 1, 0, 0, 1000);
    due("1000 pence", c.clerk(0), 0);
    row(c, 0, 1, 0, -1, 9);
    due("PERSON -1", c.clerk(0), 0);
  }

  private static void image() {
    BrassBalls b = busy(PLAIN);
    due("none such", b.image(2), -2);
    due("none such", b.image(-1), -2);
    due("none was made", b.restore(1), -5);
    due("image", b.image(1), 0);
    due("the other one", b.restore(0), -5);
    b.weeks(1);
    due("image", b.image(0), 0);
    b.weeks(1);
    b.restore(1);
    due("WEEK", b.count(8), 0);
    b.restore(0);
    due("WEEK", b.count(8), 1);
    b.weeks(1);
    due("in place of it", b.image(0), 0);
    b.weeks(1);
    b.restore(0);
    due("WEEK", b.count(8), 2);
  }

  private static void restore() {
    BrassBalls b = busy(PLAIN + "year 1;least 2;sworn 1;hold 1;");
    tell(b, 1, "seek if cloth;seek if by 1;");
    b.other();
    b.pledge(0, 0, 20);
    b.pledge(1, 1, 30);
    b.rack(9, 5);
    b.put(0, 0);
    b.suit(0, 0, 5);
    b.list(0, 0);
    b.scribe(0, 1, 1, 1, 1, 1);
    b.duty(2);
    b.hold(0);
    due("none such", b.restore(2), -2);
    due("none such", b.restore(-1), -2);
    due("none made", b.restore(0), -5);
    String before = told(b);
    b.image(0);
    tell(b, 0, "upto 30 take 9 per 1;hold 9;");
    tell(b, 1, "seek if not cloth;");
    b.other();
    b.weeks(2);
    b.fetch(148);
    b.renew(279);
    b.kind(1, 1, 1, 1, false);
    b.person(1, 1, 1, 1);
    b.pledge(0, 2, 5);
    b.put(1, 0);
    b.rack(3, 3);
    b.suit(0, 1, 9);
    b.suit(1, 1, 9);
    b.list(1, 1);
    b.scribe(0, 9, 9, 9, 9, 9);
    b.duty(3);
    b.hold(0);
    tell(b, 0, "year 0;");
    feed(b, "year 9;");
    row(b, 1, 0, 1);
    due("restore", b.restore(0), 0);
    due("all as it was", told(b).equals(before) ? 1 : 0, 1);
    due("not the FAULT", b.fault(0), 3);
    due("not its place", b.fault(1), 5);
    due("not THE TAPE", b.count(7), 20);
    due("not ROWS", b.write(1, 0, 7), 7);
    due("goes on", b.pledge(0, 0, 5), 313);
    b.restore(0);
    due("again", b.count(2), 2);
  }

  private static void count() {
    BrassBalls b = busy(PLAIN + "year 5;");
    tell(b, 1, "seek if cloth;");
    feed(b, "x");
    b.pledge(0, 0, 5);
    b.pledge(1, 0, 5);
    b.pledge(1, 0, 5);
    b.swear(0);
    b.fetch(279);
    b.rack(9, 1);
    b.rack(8, 1);
    b.put(0, 1);
    b.weeks(7);
    b.list(0, 1);
    b.duty(3);
    int[] want = {2, 2, 3, 4, 2, 2, 1, 20, 7, 2, 1, 3};
    for (int what = 0; what < 12; what++) {
      due("count(" + what + ")", b.count(what), want[what]);
    }
    due("a RACK", b.count(20), 9);
    due("a RACK", b.count(21), 5);
    for (int what : new int[] {-1, 12, 19, 22, 30, MIN, MAX}) {
      due("others", b.count(what), -1);
    }
  }

  public static void main(String[] args) {
    Runnable[] tests = {PromiseTests::aNewObject, PromiseTests::feed, PromiseTests::text, PromiseTests::fault, PromiseTests::other, PromiseTests::interest,
        PromiseTests::kind, PromiseTests::person, PromiseTests::purse, PromiseTests::weeks, PromiseTests::pledge, PromiseTests::ticket, PromiseTests::held,
        PromiseTests::fetch, PromiseTests::renew, PromiseTests::swear, PromiseTests::sell, PromiseTests::of, PromiseTests::passed, PromiseTests::sale,
        PromiseTests::over, PromiseTests::lend, PromiseTests::gained, PromiseTests::rack, PromiseTests::put, PromiseTests::rush, PromiseTests::best,
        PromiseTests::life, PromiseTests::needs, PromiseTests::lots, PromiseTests::fits, PromiseTests::hold, PromiseTests::runs, PromiseTests::chain,
        PromiseTests::book, PromiseTests::worst, PromiseTests::scribe, PromiseTests::duty, PromiseTests::hand, PromiseTests::suit, PromiseTests::street,
        PromiseTests::shilling, PromiseTests::trips, PromiseTests::renewals, PromiseTests::foresee, PromiseTests::list, PromiseTests::match,
        PromiseTests::row, PromiseTests::write, PromiseTests::clerk, PromiseTests::image, PromiseTests::restore, PromiseTests::count};
    for (int i = 0; i < tests.length; i++) {
      at = "promise " + (i + 1);
      tests[i].run();
    }
    at = "the constant";
    due("NONE", BrassBalls.NONE, -1);
    System.out.println("PromiseTests: " + (wrong == 0 ? tests.length + " promises are kept" : wrong + " answers are not as due"));
    if (wrong != 0) {
      System.exit(1);
    }
  }
}
