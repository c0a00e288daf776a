import java.util.ArrayList;
import java.util.List;
import java.util.function.Consumer;
import java.util.function.ToLongFunction;

/**
 * "Refused calls answer by a code and change nothing" and "of several that which the call tells first": each call with each reason for which it
 * is refused, in a shop that has some of everything. Behind the refused call the shop must answer and go on as its twin without that call.
 */
public final class RefusedTests extends Helpers {
  private static final String LAW = "upto 20 take 1 per 5;upto 100 take 3 per 10;least 2;ticket 1;sworn 4;year 4;moth 5;hold 3;";
  private static final Consumer<BrassBalls> NOTHING = b -> { };
  private static int calls = 0;
  private static Consumer<BrassBalls> twinOf = null;
  private static String twin = "";

  /**
   * PLEDGE 0 is HERE on a RACK and was renewed, 1 is PASSED, HELD and on the same RACK, 2 is FETCHED, 3 is PASSED, 4 is SOLD with 33 OVER. PERSON 2
   * has 1 half penny. TICKETS 2, 4, 6 LIVE. ROW 0 has a PLEDGE, ROW 1 no number, ROW 2 weights, ROW 3 is MISSING. IMAGE 0 was made, 1 not.
   */
  private static BrassBalls rich(Consumer<BrassBalls> more) {
    BrassBalls b = shop("upto 50 take 1 per 10;");
    b.other();
    tell(b, 0, LAW);
    tell(b, 1, "seek if by 1;seek if kind 1;");
    b.kind(3, 10, 14, 0, true);
    b.kind(2, 100, 100, 50, false);
    b.person(30, 5, 20, 100);
    b.person(10, 5, 5, 100);
    b.person(0, 1, 0, 0);
    b.pledge(0, 0, 20);
    b.pledge(1, 1, 50);
    b.pledge(0, 0, 10);
    b.pledge(1, 2, 1);
    b.pledge(1, 0, 30);
    b.rack(9, 5);
    b.rack(3, 0);
    b.put(0, 0);
    b.put(1, 0);
    b.sell(number(5), 1, 7);
    b.suit(2, 0, 4);
    b.list(0, 0);
    b.list(1, 2);
    b.scribe(1, 5, 5, 5, 5, 5);
    b.weeks(4);
    b.fetch(number(3));
    b.sale(4, 60);
    b.hold(0);
    b.duty(1);
    b.renew(number(1));
    row(b, 0, 1, 0, 1, 5);
    row(b, 1, 0);
    row(b, 2, 0, 4, 0, 99, 100, -1);
    more.accept(b);
    b.image(0);
    feed(b, "year 9;");
    return b;
  }

  /** What changes the shop, so that what no call tells shows too. */
  private static String goneOn(BrassBalls b) {
    StringBuilder s = new StringBuilder();
    add(s, b.write(0, 1, 0), b.write(1, 0, 77), b.write(2, 6, 77), b.write(2, 4, 300), b.write(3, 0, 77), b.clerk(0), b.clerk(2));
    add(s, b.over(4), b.over(4), b.sale(3, 9), b.put(3, 1), b.put(0, 1), b.hold(1), b.weeks(1), b.fetch(number(6)), b.renew(number(2)), b.swear(3));
    add(s, b.pledge(1, 1, 9), b.sell(number(4), 0, 0), b.kind(1, 1, 1, 1, true), b.person(1, 1, 1, 1), b.rack(1, 1), b.list(1, 1));
    add(s, b.text(0, 7), b.count(5), b.feed(1, 2, 3, 4, 5), b.text(1, 21), b.text(1, 20), b.fault(0), b.fault(1), b.other(), b.runs(1, 1));
    add(s, b.scribe(2, 9, 9, 9, 9, 9), b.duty(2), b.swear(1), b.hand(number(7), 9, 9, 9, 9, 9), b.suit(0, 0, 999), b.suit(1, 0, 5), b.street(104, 9));
    add(s, b.count(2), b.count(3), b.count(9), b.restore(1), b.image(1), b.restore(0), b.count(8), b.purse(0), b.purse(1), b.of(0, 3), b.restore(1));
    add(s, b.count(8), b.purse(0), b.worst(1, 1), b.book(5, 1));
    return s.toString();
  }

  private static String answers(BrassBalls b) {
    return b.count(7) + " " + b.fault(0) + " " + b.fault(1) + " " + told(b) + "| " + goneOn(b);
  }

  private static void refusedIn(Consumer<BrassBalls> more, String reason, long code, ToLongFunction<BrassBalls> call) {
    if (twinOf != more) {
      twin = answers(rich(more));
      twinOf = more;
    }
    BrassBalls b = rich(more);
    due(reason, call.applyAsLong(b), code);
    String after = answers(b);
    if (!after.equals(twin)) {
      wrong++;
      System.out.println(at + ": " + reason + " changed something:\n  " + twin + "\n  " + after);
    }
    calls++;
  }

  private static void refused(String reason, long code, ToLongFunction<BrassBalls> call) {
    refusedIn(NOTHING, reason, code, call);
  }

  /** Numbers from which a call must be refused, each told alone: what is below low or above high. */
  private static List<Integer> outside(int low, int high) {
    List<Integer> all = new ArrayList<>(List.of(MIN, low - 1, high + 1, MAX));
    if (low > 0) {
      all.add(-low);
    }
    return all;
  }

  private interface Of {
    long call(BrassBalls b, int v);
  }

  private static void outside(String reason, int low, int high, long code, Of call) {
    for (int v : outside(low, high)) {
      refused(reason + " " + v, code, b -> call.call(b, v));
    }
  }

  // ---- shops that are full

  private static void fillTape(BrassBalls b) {
    for (int i = 0; i < 19; i++) {
      b.feed(0x20202020, 0x20202020, 0x20202020, 0x20202020, 0x20202020);
    }
  }

  private static void fillKinds(BrassBalls b) {
    for (int i = b.count(0); i < 12; i++) {
      b.kind(1, 1, 1, 0, true);
    }
  }

  private static void fillPeople(BrassBalls b) {
    for (int i = b.count(1); i < 16; i++) {
      b.person(1, 1, 1, 1);
    }
  }

  private static void fillPledges(BrassBalls b) {
    row(b, 3, 0, 1, 1, 1);
    for (int i = b.count(2); i < 60; i++) {
      b.clerk(3);
    }
  }

  private static void fillTickets(BrassBalls b) {
    tell(b, 0, "upto 100 take 1 per 1;");
    for (int i = b.count(3); i < 150; i++) {
      b.swear(0);
    }
    tell(b, 0, LAW);
  }

  private static void fillRacks(BrassBalls b) {
    for (int i = b.count(4); i < 10; i++) {
      b.rack(1, 1);
    }
  }

  private static void fillListed(BrassBalls b) {
    for (int i = b.count(10); i < 12; i++) {
      b.list(0, 9);
    }
  }

  private static void lateWeek(BrassBalls b) {
    for (int i = 0; i < 5; i++) {
      b.weeks(52);
    }
  }

  private static void lastWeek(BrassBalls b) {
    lateWeek(b);
    b.weeks(36);
  }

  // ---- what is refused

  private static void texts() {
    Consumer<BrassBalls> full = RefusedTests::fillTape;
    // rich() feeds once more behind it, so that there are 400 bytes
    refusedIn(full, "feed: it would have more than 400", -4, b -> b.feed(1, 2, 3, 4, 5));
    outside("text: what", 0, 1, -2, (b, v) -> b.text(v, 7));
    outside("text: n", 0, 20, -3, (b, v) -> b.text(0, v));
    outside("text: n of LOOKS", 0, 20, -3, (b, v) -> b.text(1, v));
    refused("text: what before n", -2, b -> b.text(2, 21));
    outside("fault: others", 0, 1, -1, (b, v) -> b.fault(v));
    outside("interest: the shop", 0, 1, -2, (b, v) -> b.interest(v, 5, 0, 0));
    for (int shop = 0; shop < 2; shop++) {
      int s = shop;
      outside("interest: the loan", 1, 999, -3, (b, v) -> b.interest(s, v, 0, 0));
      outside("interest: from", 0, 300, -3, (b, v) -> b.interest(s, 5, v, 300));
      outside("interest: to", 0, 300, -3, (b, v) -> b.interest(s, 5, 0, v));
      refused("interest: from above to", -3, b -> b.interest(s, 5, 8, 7));
      refused("interest: from above to", -3, b -> b.interest(s, 5, 300, 0));
    }
    refused("interest: from and to above 300", -3, b -> b.interest(0, 5, 301, 301));
    refused("interest: it can't be lent", -5, b -> b.interest(0, 101, 0, 0));
    refused("interest: it can't be lent there", -5, b -> b.interest(1, 51, 0, 0));
    refused("interest: it can't be lent", -5, b -> b.interest(0, 999, 0, 300));
    refused("interest: the shop before the loan", -2, b -> b.interest(2, 0, 0, 0));
    refused("interest: WEEKS before what can't be lent", -3, b -> b.interest(0, 101, 1, 0));
  }

  private static void kindsPeopleWeeks() {
    outside("kind: SIZE", 1, 9, -3, (b, v) -> b.kind(v, 5, 5, 5, true));
    outside("kind: LOW", 1, 999, -3, (b, v) -> b.kind(1, v, 999, 5, true));
    outside("kind: HIGH", 1, 999, -3, (b, v) -> b.kind(1, 1, v, 5, true));
    refused("kind: LOW above HIGH", -3, b -> b.kind(1, 6, 5, 5, true));
    refused("kind: LOW above HIGH", -3, b -> b.kind(1, 999, 1, 5, true));
    refused("kind: LOW and HIGH above 999", -3, b -> b.kind(1, 1000, 1000, 5, true));
    outside("kind: GLASS", 0, 99, -3, (b, v) -> b.kind(1, 5, 5, v, true));
    outside("person: PAY", 0, 999, -3, (b, v) -> b.person(v, 1, 1, 1));
    outside("person: RENT", 0, 999, -3, (b, v) -> b.person(1, v, 1, 1));
    outside("person: FOOD", 0, 999, -3, (b, v) -> b.person(1, 1, v, 1));
    outside("person: PURSE", 0, 9999, -3, (b, v) -> b.person(1, 1, 1, v));
    Consumer<BrassBalls> kinds = RefusedTests::fillKinds;
    refusedIn(kinds, "kind: 12 there are", -4, b -> b.kind(1, 5, 5, 5, true));
    refusedIn(kinds, "kind: the number first", -3, b -> b.kind(1, 5, 5, 100, true));
    Consumer<BrassBalls> people = RefusedTests::fillPeople;
    refusedIn(people, "person: 16 there are", -4, b -> b.person(1, 1, 1, 1));
    refusedIn(people, "person: the number first", -3, b -> b.person(1, 1, 1, 10000));
    outside("purse: none such", 0, 2, -1000000, (b, v) -> b.purse(v));
    outside("weeks: n", 1, 52, -3, (b, v) -> b.weeks(v));
    Consumer<BrassBalls> last = RefusedTests::lastWeek;
    refusedIn(last, "weeks: 301", -5, b -> b.weeks(1));
    refusedIn(last, "weeks: 352", -5, b -> b.weeks(52));
    refusedIn(last, "weeks: the number first", -3, b -> b.weeks(53));
    Consumer<BrassBalls> late = RefusedTests::lateWeek;
    refusedIn(late, "weeks: 264 and 37", -5, b -> b.weeks(37));
  }

  private static void pledging() {
    outside("pledge: KIND", 0, 1, -2, (b, v) -> b.pledge(v, 0, 5));
    outside("pledge: PERSON", 0, 2, -2, (b, v) -> b.pledge(0, v, 5));
    outside("pledge: the loan", 1, 999, -3, (b, v) -> b.pledge(0, 0, v));
    refused("pledge: it can't be lent", -5, b -> b.pledge(0, 0, 101));
    refused("pledge: it can't be lent", -5, b -> b.pledge(0, 0, 999));
    refused("pledge: KIND before the loan", -2, b -> b.pledge(2, 0, 0));
    refused("pledge: PERSON before the loan", -2, b -> b.pledge(0, 3, 0));
    Consumer<BrassBalls> pledges = RefusedTests::fillPledges;
    refusedIn(pledges, "pledge: 60 PLEDGES", -4, b -> b.pledge(0, 0, 5));
    refusedIn(pledges, "pledge: 60 PLEDGES before what can't be lent", -4, b -> b.pledge(0, 0, 101));
    refusedIn(pledges, "pledge: the loan before 60 PLEDGES", -3, b -> b.pledge(0, 0, 0));
    refusedIn(pledges, "pledge: KIND before 60 PLEDGES", -2, b -> b.pledge(2, 0, 5));
    refusedIn(pledges, "clerk: 60 PLEDGES", 0, b -> b.clerk(3));
    Consumer<BrassBalls> tickets = RefusedTests::fillTickets;
    refusedIn(tickets, "pledge: 150 TICKETS", -4, b -> b.pledge(0, 0, 5));
    refusedIn(tickets, "pledge: 150 TICKETS before what can't be lent", -4, b -> b.pledge(0, 0, 101));
    refusedIn(tickets, "renew: TICKETS", -4, b -> b.renew(number(2)));
    refusedIn(tickets, "renew: TICKETS before the PURSE", -4, b -> b.renew(number(4)));
    refusedIn(tickets, "renew: the number before TICKETS", -2, b -> b.renew(number(1)));
    refusedIn(tickets, "swear: TICKETS", -4, b -> b.swear(0));
    refusedIn(tickets, "swear: TICKETS before what isn't HERE", -4, b -> b.swear(2));
    refusedIn(tickets, "swear: TICKETS before the PURSE", -4, b -> b.swear(3));
    refusedIn(tickets, "swear: the PLEDGE before TICKETS", -2, b -> b.swear(5));
    refusedIn(tickets, "clerk: 150 TICKETS", 0, b -> b.clerk(0));
  }

  /** Numbers that don't LIVE: DEAD ones, forged ones, those without a serial, those that never were. */
  private static void lifeless(String call, Of of) {
    int[] numbers = {number(1), number(3), number(5), number(2) - 1, number(2) + 1, number(2) + 100, number(7), number(151), 0, 17, 48, -1, -number(2), MIN, MAX};
    for (int v : numbers) {
      refused(call + ": it doesn't LIVE, " + v, -2, b -> of.call(b, v));
    }
  }

  private static void tickets() {
    for (int what = 0; what < 3; what++) {
      int w = what;
      lifeless("held " + w, (b, v) -> b.held(v, w));
    }
    outside("held: what", 0, 2, -2, (b, v) -> b.held(number(2), v));
    lifeless("fetch", (b, v) -> b.fetch(v));
    refused("fetch: it is HELD", -5, b -> b.fetch(number(2)));
    refused("fetch: the PURSE has not so much", -8, b -> b.fetch(number(4)));
    Consumer<BrassBalls> poor = b -> b.sell(number(2), 2, 0);
    refusedIn(poor, "fetch: HELD before the PURSE", -5, b -> b.fetch(number(2)));
    lifeless("renew", (b, v) -> b.renew(v));
    refused("renew: the PURSE has not so much", -8, b -> b.renew(number(4)));
    outside("swear: no such PLEDGE", 0, 4, -2, (b, v) -> b.swear(v));
    refused("swear: FETCHED", -5, b -> b.swear(2));
    refused("swear: SOLD", -5, b -> b.swear(4));
    refused("swear: the PURSE has not so much", -8, b -> b.swear(3));
    Consumer<BrassBalls> gone = b -> b.sale(3, 0);
    refusedIn(gone, "swear: what isn't HERE before the PURSE", -5, b -> b.swear(3));
    lifeless("sell", (b, v) -> b.sell(v, 2, 0));
    outside("sell: the PERSON", 0, 2, -2, (b, v) -> b.sell(number(2), v, 0));
    outside("sell: the price", 0, 999, -3, (b, v) -> b.sell(number(2), 0, v));
    refused("sell: it holds it already", -3, b -> b.sell(number(2), 1, 0));
    refused("sell: it holds it already, before the PURSE", -3, b -> b.sell(number(4), 2, 9));
    refused("sell: the price before the PURSE", -3, b -> b.sell(number(2), 2, 1000));
    refused("sell: the PERSON before the price", -2, b -> b.sell(number(2), 3, 1000));
    refused("sell: the number before the price", -2, b -> b.sell(number(1), 0, -1));
    refused("sell: the PURSE has not so much", -8, b -> b.sell(number(2), 2, 1));
    outside("of: none such", 0, 4, -1000, (b, v) -> b.of(v, 0));
    outside("of: what", 0, 8, -1000, (b, v) -> b.of(0, v));
    outside("passed: not so many", -1, 1, -1, (b, v) -> b.passed(v));
    outside("renewals: PLEDGE", 0, 4, -2, (b, v) -> b.renewals(v, 0));
    outside("renewals: what", 0, 1, -2, (b, v) -> b.renewals(0, v));
  }

  private static void sales() {
    outside("sale: no such PLEDGE", 0, 4, -1000000, (b, v) -> b.sale(v, 5));
    refused("sale: not PASSED", -1000000, b -> b.sale(0, 5));
    refused("sale: HELD", -1000000, b -> b.sale(1, 5));
    refused("sale: FETCHED", -1000000, b -> b.sale(2, 5));
    refused("sale: SOLD", -1000000, b -> b.sale(4, 5));
    outside("sale: the price", 0, 9999, -1000000, (b, v) -> b.sale(3, v));
    outside("over: no such PLEDGE", 0, 4, -2, (b, v) -> b.over(v));
    refused("over: HERE", -5, b -> b.over(0));
    refused("over: FETCHED", -5, b -> b.over(2));
    Consumer<BrassBalls> year = b -> b.weeks(52);
    refusedIn(year, "over: 52 WEEKS ago", -5, b -> b.over(4));
    Consumer<BrassBalls> late = RefusedTests::lateWeek;
    refusedIn(late, "over: more than 52 WEEKS ago", -5, b -> b.over(4));
  }

  private static void lending() {
    outside("lend: the KIND", 0, 1, -2, (b, v) -> b.lend(v, 50, 1));
    outside("lend: BACK", 0, 100, -3, (b, v) -> b.lend(0, v, 1));
    outside("lend: HALVES", 1, 52, -3, (b, v) -> b.lend(0, 50, v));
    refused("lend: the KIND before BACK", -2, b -> b.lend(2, 101, 1));
    outside("gained: the KIND", 0, 1, -2, (b, v) -> b.gained(v, 5, 50, 1));
    outside("gained: the loan", 1, 999, -3, (b, v) -> b.gained(0, v, 50, 1));
    outside("gained: BACK", 0, 100, -3, (b, v) -> b.gained(0, 5, v, 1));
    outside("gained: HALVES", 1, 52, -3, (b, v) -> b.gained(0, 5, 50, v));
    refused("gained: it can't be lent", -5, b -> b.gained(0, 101, 50, 1));
    refused("gained: the KIND before the loan", -2, b -> b.gained(2, 0, 50, 1));
    refused("gained: HALVES before what can't be lent", -3, b -> b.gained(0, 101, 50, 53));
  }

  private static void racks() {
    outside("rack: room", 1, 99, -3, (b, v) -> b.rack(v, 5));
    outside("rack: STEPS", 0, 99, -3, (b, v) -> b.rack(5, v));
    Consumer<BrassBalls> full = RefusedTests::fillRacks;
    refusedIn(full, "rack: 10 there are", -4, b -> b.rack(5, 5));
    refusedIn(full, "rack: the number first", -3, b -> b.rack(5, 100));
    outside("put: PLEDGE", 0, 4, -2, (b, v) -> b.put(v, 0));
    outside("put: RACK", 0, 1, -2, (b, v) -> b.put(0, v));
    refused("put: RACK before what isn't HERE", -2, b -> b.put(2, 2));
    refused("put: FETCHED", -5, b -> b.put(2, 0));
    refused("put: SOLD", -5, b -> b.put(4, 0));
    refused("put: lies there", -5, b -> b.put(0, 0));
    Consumer<BrassBalls> tight = b -> b.put(3, 1);
    refusedIn(tight, "put: 3 into 1", -5, b -> b.put(0, 1));
    refusedIn(tight, "put: 2 into 1", -5, b -> b.put(1, 1));
    outside("rush: bits", 0, 255, -3, (b, v) -> b.rush(0, v));
    refused("rush: bits before PLEDGES", -3, b -> b.rush(9, 256));
    outside("trips: bits", 0, 255, -3, (b, v) -> b.trips(0, v, 9));
    outside("trips: ARMS", 1, 99, -3, (b, v) -> b.trips(0, 1, v));
    refused("trips: ARMS before PLEDGES", -3, b -> b.trips(9, 1, 0));
    refused("trips: PLEDGES before SIZES", -5, b -> b.trips(0, 9, 1));
    int[][] none = {{0, 4}, {0, 8}, {0, 16}, {0, 32}, {0, 255}, {3, 1}, {5, 1}, {-1, 1}, {-8, 128}, {MAX, 1}, {MAX, 2}, {MIN, 1}, {MIN, 128}};
    for (int[] n : none) {
      refused("rush: not HERE on a RACK, none such " + n[0] + " " + n[1], -5, b -> b.rush(n[0], n[1]));
      refused("trips: not HERE on a RACK, none such " + n[0] + " " + n[1], -5, b -> b.trips(n[0], n[1], 9));
    }
  }

  private static void best() {
    outside("best: the ROW", 0, 3, -2, (b, v) -> b.best(v, 1, -1));
    outside("best: n", 1, 7, -3, (b, v) -> b.best(2, v, -1));
    refused("best: there are not n such PLEDGES", -5, b -> b.best(2, 2, -1));
    refused("best: there are not n such PLEDGES", -5, b -> b.best(2, 7, 0));
    refused("best: MISSING", -6, b -> b.best(3, 1, -1));
    refused("best: fewer than n", -7, b -> b.best(1, 1, -1));
    refused("best: the ROW before n", -2, b -> b.best(4, 0, -1));
    refused("best: n before PLEDGES", -3, b -> b.best(2, 8, -1));
    refused("best: n before MISSING", -3, b -> b.best(3, 0, -1));
    refused("best: PLEDGES before MISSING", -5, b -> b.best(3, 2, -1));
    refused("best: PLEDGES before fewer than n", -5, b -> b.best(1, 2, -1));
    outside("best: not so many", -1, 0, -1, (b, v) -> b.best(2, 1, v));
    Consumer<BrassBalls> more = b -> {
      for (int i = 0; i < 5; i++) {
        b.pledge(1, 0, 5);
      }
      b.write(2, 2, 1);
    };
    refusedIn(more, "best: a weight of 100", -3, b -> b.best(2, 4, -1));
    refusedIn(more, "best: a weight of 100", -3, b -> b.best(2, 4, 9));
    refusedIn(more, "best: fewer than n before a weight", -7, b -> b.best(2, 6, -1));
    Consumer<BrassBalls> light = b -> {
      more.accept(b);
      b.write(2, 3, 1);
    };
    refusedIn(light, "best: no room for all", -1, b -> b.best(2, 4, -1));
    refusedIn(light, "best: no room for all", -1, b -> b.best(2, 4, 1));
    Consumer<BrassBalls> below = b -> b.write(2, 0, -1);
    refusedIn(below, "best: a weight of -1", -3, b -> b.best(2, 1, -1));
  }

  private static void livesAndLots() {
    outside("life: PERSON", 0, 2, -2, (b, v) -> b.life(v, 0, 5, 5, 0));
    outside("life: KIND", 0, 1, -2, (b, v) -> b.life(0, v, 5, 5, 0));
    outside("life: the loan", 1, 999, -3, (b, v) -> b.life(0, 0, v, 5, 0));
    outside("life: WEEKS", 1, 104, -3, (b, v) -> b.life(0, 0, 5, v, 0));
    outside("life: more", 0, 999, -3, (b, v) -> b.life(0, 0, 5, 5, v));
    refused("life: it can't be lent", -5, b -> b.life(0, 0, 101, 5, 0));
    refused("life: PERSON before the loan", -2, b -> b.life(3, 0, 0, 5, 0));
    refused("life: KIND before the loan", -2, b -> b.life(0, 2, 0, 5, 0));
    refused("life: WEEKS before what can't be lent", -3, b -> b.life(0, 0, 101, 0, 0));
    outside("needs: PERSON", 0, 2, -2, (b, v) -> b.needs(v, 0, 5, 5));
    outside("needs: KIND", 0, 1, -2, (b, v) -> b.needs(0, v, 5, 5));
    outside("needs: the loan", 1, 999, -3, (b, v) -> b.needs(0, 0, v, 5));
    outside("needs: WEEKS", 1, 104, -3, (b, v) -> b.needs(0, 0, 5, v));
    refused("needs: it can't be lent", -5, b -> b.needs(0, 0, 101, 5));
    refused("needs: PERSON before the loan", -2, b -> b.needs(3, 0, 0, 5));
    refused("needs: WEEKS before what can't be lent", -3, b -> b.needs(0, 0, 101, 105));
    outside("lots: n", 1, 10, -3, (b, v) -> b.lots(v, -1));
    refused("lots: fewer PLEDGES than LOTS", -5, b -> b.lots(3, -1));
    refused("lots: fewer PLEDGES than LOTS", -5, b -> b.lots(10, 0));
    outside("lots: not so many", -1, 1, -1, (b, v) -> b.lots(2, v));
  }

  private static void looksAndBooks() {
    outside("fits: no such LOOK", 0, 1, -2, (b, v) -> b.fits(v, -1));
    outside("fits: not so many", -1, 0, -1, (b, v) -> b.fits(0, v));
    outside("hold: no such LOOK", 0, 1, -2, (b, v) -> b.hold(v));
    outside("runs: PERSON", 0, 2, -2, (b, v) -> b.runs(v, 0));
    outside("runs: what", 0, 1, -2, (b, v) -> b.runs(0, v));
    outside("chain: PERSON", 0, 2, -2, (b, v) -> b.chain(v));
    outside("book: a WEEK behind now or below 0", 0, 4, -2, (b, v) -> b.book(v, 0));
    outside("book: what", 0, 4, -2, (b, v) -> b.book(0, v));
    outside("worst: what", 0, 1, -2, (b, v) -> b.worst(1, v));
    outside("worst: n, or more than there are", 1, 5, -3, (b, v) -> b.worst(v, 0));
    refused("worst: what before n", -2, b -> b.worst(0, 2));
    Consumer<BrassBalls> late = RefusedTests::lateWeek;
    refusedIn(late, "worst: n", -3, b -> b.worst(53, 0));
  }

  private static void scribesAndSuits() {
    outside("scribe: none such", 0, 3, -2, (b, v) -> b.scribe(v, 1, 1, 1, 1, 1));
    outside("scribe: the first", 0, 9, -3, (b, v) -> b.scribe(1, v, 1, 1, 1, 1));
    outside("scribe: the second", 0, 9, -3, (b, v) -> b.scribe(1, 1, v, 1, 1, 1));
    outside("scribe: the third", 0, 9, -3, (b, v) -> b.scribe(1, 1, 1, v, 1, 1));
    outside("scribe: the fourth", 0, 9, -3, (b, v) -> b.scribe(1, 1, 1, 1, v, 1));
    outside("scribe: the fifth", 0, 9, -3, (b, v) -> b.scribe(1, 1, 1, 1, 1, v));
    refused("scribe: none such before STROKES", -2, b -> b.scribe(4, 10, 1, 1, 1, 1));
    outside("duty: none such", 0, 3, -2, (b, v) -> b.duty(v));
    int[] numbers = {number(2) - 1, number(2) + 1, number(2) + 100, number(7), number(151), 0, 17, 48, -1, -number(2), MIN, MAX};
    for (int v : numbers) {
      refused("hand: there was never such a TICKET, " + v, -2, b -> b.hand(v, 1, 1, 1, 1, 1));
    }
    outside("hand: the first", 0, 9, -3, (b, v) -> b.hand(number(2), v, 1, 1, 1, 1));
    outside("hand: the second", 0, 9, -3, (b, v) -> b.hand(number(2), 1, v, 1, 1, 1));
    outside("hand: the third", 0, 9, -3, (b, v) -> b.hand(number(2), 1, 1, v, 1, 1));
    outside("hand: the fourth", 0, 9, -3, (b, v) -> b.hand(number(2), 1, 1, 1, v, 1));
    outside("hand: the fifth", 0, 9, -3, (b, v) -> b.hand(number(1), 1, 1, 1, 1, v));
    refused("hand: the TICKET before STROKES", -2, b -> b.hand(number(7), 10, 1, 1, 1, 1));
    outside("suit: PERSON", 0, 2, -2, (b, v) -> b.suit(v, 0, 5));
    outside("suit: KIND", 0, 1, -2, (b, v) -> b.suit(2, v, 5));
    outside("suit: the loan", 1, 999, -3, (b, v) -> b.suit(2, 0, v));
    refused("suit: PERSON before the loan", -2, b -> b.suit(3, 0, 0));
    refused("suit: KIND before the loan", -2, b -> b.suit(2, 2, 0));
    outside("street: WEEKS", 1, 104, -3, (b, v) -> b.street(v, 0));
    outside("street: more", 0, 999, -3, (b, v) -> b.street(5, v));
    outside("shilling: WEEKS", 1, 104, -3, (b, v) -> b.shilling(v));
  }

  private static void lists() {
    outside("list: the KIND", 0, 1, -2, (b, v) -> b.list(v, 0));
    outside("list: the WEEK", 0, 300, -3, (b, v) -> b.list(0, v));
    refused("list: the KIND before the WEEK", -2, b -> b.list(2, 301));
    Consumer<BrassBalls> full = RefusedTests::fillListed;
    refusedIn(full, "list: 12 there are", -4, b -> b.list(0, 0));
    refusedIn(full, "list: the WEEK first", -3, b -> b.list(0, -1));
    refusedIn(full, "list: the KIND first", -2, b -> b.list(2, 0));
    outside("match: none such", -1, 1, -1, (b, v) -> b.match(v));
  }

  private static void rowsAndImages() {
    outside("row: no such ROW", 0, 3, -2, (b, v) -> b.row(v, 0, 1));
    outside("row: no such sort", 0, 3, -2, (b, v) -> b.row(2, v, 1));
    for (int row = 0; row < 4; row++) {
      int r = row;
      outside("row: n, and the ROW stays", 0, 40, -3, (b, v) -> b.row(r, 3, v));
    }
    refused("row: no such ROW before n", -2, b -> b.row(4, 0, 41));
    refused("row: no such sort before n", -2, b -> b.row(0, 4, 41));
    outside("write: no such ROW", 0, 3, -2, (b, v) -> b.write(v, 0, 5));
    refused("write: MISSING", -6, b -> b.write(3, 0, 5));
    refused("write: MISSING before the number", -6, b -> b.write(3, 40, 5));
    outside("write: there is no such number", 0, 4, -7, (b, v) -> b.write(2, v, 5));
    outside("write: of no number", 0, -1, -7, (b, v) -> b.write(1, v, 5));
    outside("clerk: the ROW", 0, 3, -2, (b, v) -> b.clerk(v));
    refused("clerk: MISSING", -6, b -> b.clerk(3));
    refused("clerk: no number", 0, b -> b.clerk(1));
    refused("clerk: the first is refused", 0, b -> b.clerk(2));
    outside("image: none such", 0, 1, -2, (b, v) -> b.image(v));
    outside("restore: none such", 0, 1, -2, (b, v) -> b.restore(v));
    refused("restore: none was made", -5, b -> b.restore(1));
    outside("count: others", 0, 11, -1, (b, v) -> b.count(v));
    outside("count: no such RACK", 20, 21, -1, (b, v) -> b.count(v));
  }

  public static void main(String[] args) {
    Runnable[] tests = {RefusedTests::texts, RefusedTests::kindsPeopleWeeks, RefusedTests::pledging, RefusedTests::tickets, RefusedTests::sales,
        RefusedTests::lending, RefusedTests::racks, RefusedTests::best, RefusedTests::livesAndLots, RefusedTests::looksAndBooks,
        RefusedTests::scribesAndSuits, RefusedTests::lists, RefusedTests::rowsAndImages};
    at = "a refused call";
    for (Runnable test : tests) {
      test.run();
    }
    System.out.println("RefusedTests: " + (wrong == 0 ? calls + " refused calls change nothing" : wrong + " answers are not as due"));
    if (wrong != 0) {
      System.exit(1);
    }
  }
}
