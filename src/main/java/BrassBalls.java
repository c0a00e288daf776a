/**
 * A pawnshop: pledges and tickets, the law of its interest, racks, houses by weeks, books, looks for stolen things, scribes, lists, rows and
 * images. What each call promises stands in ../shared/DOC.md; words in capitals here are that document's terms.
 */
public final class BrassBalls {

  /** There is none. */
  public static final int NONE = -1;

  // The codes of refused calls.
  private static final int NO_SUCH = -2;
  private static final int BAD_NUMBER = -3;
  private static final int FULL = -4;
  private static final int NOT_NOW = -5;
  private static final int ROW_MISSING = -6;
  private static final int ROW_SHORT = -7;
  private static final int POOR = -8;
  private static final int NO_PLEDGE = -1000;
  private static final int NO_SUM = -1000000;
  private static final int FAULTY = -10;

  // How many there can be.
  private static final int TAPE_ROOM = 400;
  private static final int FEED_BYTES = 20;
  private static final int MOST_KINDS = 12;
  private static final int MOST_PEOPLE = 16;
  private static final int MOST_PLEDGES = 60;
  private static final int MOST_TICKETS = 150;
  private static final int MOST_RACKS = 10;
  private static final int MOST_LISTED = 12;
  private static final int MOST_UPTOS = 8;
  private static final int MOST_LOOKS = 8;
  private static final int MOST_OPEN = 8;
  private static final int SCRIBES = 4;
  private static final int STROKES = 5;
  private static final int ROWS = 4;
  private static final int ROW_ROOM = 40;
  private static final int IMAGES = 2;

  // The greatest numbers that calls take.
  private static final int LAST_WEEK = 300;
  private static final int MOST_WEEKS_AT_ONCE = 52;
  private static final int MOST_LIFE_WEEKS = 104;
  private static final int MOST_PENCE = 999;
  private static final int MOST_PURSE = 9999;
  private static final int OVER_WEEKS = 52;
  private static final int SHILLING_PENCE = 12;

  // The texts that can be read.
  private static final int THE_LAW = 0;
  private static final int THE_LOOKS = 1;

  // What THE LAW tells once at most.
  private static final int LEAST = 0;
  private static final int TICKET = 1;
  private static final int SWORN = 2;
  private static final int YEAR = 3;
  private static final int MOTH = 4;
  private static final int HOLD = 5;
  private static final int RULES = 6;
  private static final int[] RULE_LOW = {0, 0, 0, 1, 0, 1};
  private static final int[] RULE_HIGH = {99, 20, 99, 104, 20, 52};
  private static final int[] RULE_WITHOUT = {0, 0, 0, 52, 0, 2};

  // FACTS of LOOKS, and what joins them.
  private static final int CLOTH = 0;
  private static final int KIND = 1;
  private static final int SIZE = 2;
  private static final int ABOVE = 3;
  private static final int SINCE = 4;
  private static final int BY = 5;
  private static final int NOT = 6;
  private static final int AND = 7;
  private static final int OR = 8;
  private static final int[] FACT_LOW = {0, 0, 1, 0, 0, 0};
  private static final int[] FACT_HIGH = {0, 11, 9, 999, 300, 15};

  // FAULTS of texts.
  private static final int NO_TOKEN = 1;
  private static final int OUT_OF_PLACE = 2;
  private static final int OUT_OF_BOUNDS = 3;
  private static final int TOLD_AGAIN = 4;
  private static final int TOO_DEEP = 5;

  // What a number on a TICKET is.
  private static final int LIVES = 0;
  private static final int DEAD = 1;
  private static final int WRONG_FIGURES = 2;
  private static final int NEVER_WAS = 3;

  // Where a PLEDGE is.
  private static final int HERE = 0;
  private static final int FETCHED = 1;
  private static final int SOLD = 2;

  // BOOKS by WEEKS; the last is not told, but WORST needs it.
  private static final int LENT = 0;
  private static final int TAKEN = 1;
  private static final int CAME = 2;
  private static final int WENT = 3;
  private static final int SALES = 4;
  private static final int BACK = 5;
  private static final int BOOKS = 6;

  // What is told of a RACK, of a LISTED thing.
  private static final int ROOM = 0;
  private static final int STEPS = 1;
  private static final int OF_KIND = 0;
  private static final int FROM_WEEK = 1;

  private static final int FAR_ENOUGH = 6;

  private final Shop shop;
  private final Shop[] images;
  private final boolean[] imageMade;
  private final Reader reader;
  private final Row[] rows;
  private final Planner planner;

  /** An empty shop. */
  public BrassBalls() {
    shop = new Shop();
    images = new Shop[IMAGES];
    for (int i = 0; i < IMAGES; i++) {
      images[i] = new Shop();
    }
    imageMade = new boolean[IMAGES];
    reader = new Reader();
    rows = new Row[ROWS];
    for (int i = 0; i < ROWS; i++) {
      rows[i] = new Row();
    }
    planner = new Planner();
  }

  private static boolean within(int v, int low, int high) {
    return low <= v && v <= high;
  }

  // ---- texts

  /** Twenty bytes more on THE TAPE: how many it has. */
  public int feed(int a, int b, int c, int d, int e) {
    Tape tape = reader.tape;
    if (tape.fed + FEED_BYTES > TAPE_ROOM) {
      return FULL;
    }
    tape.append(a);
    tape.append(b);
    tape.append(c);
    tape.append(d);
    tape.append(e);
    return tape.fed;
  }

  /** THE TAPE's first bytes are THE LAW or LOOKS: how many LINES, LOOKS. */
  public int text(int what, int n) {
    if (what != THE_LAW && what != THE_LOOKS) {
      return NO_SUCH;
    }
    if (!within(n, 0, reader.tape.fed)) {
      return BAD_NUMBER;
    }
    boolean right = what == THE_LAW ? reader.readLaw(n) : reader.readLooks(n);
    if (!right) {
      return FAULTY - reader.fault;
    }
    if (what == THE_LAW) {
      shop.law.copyFrom(reader.law);
      return shop.law.lines;
    }
    shop.looks.copyFrom(reader.looks);
    return shop.looks.looks;
  }

  /** FAULT of the latest text that was read, or its place. */
  public int fault(int what) {
    if (what == 0) {
      return reader.fault;
    }
    return what == 1 ? reader.faultPlace : NONE;
  }

  /** THE LAW as it is becomes THE OTHER SHOP's. */
  public int other() {
    shop.otherLaw.copyFrom(shop.law);
    shop.otherKept = true;
    return 0;
  }

  /** INTEREST of a loan from a WEEK to another one. */
  public int interest(int shopNumber, int loan, int from, int to) {
    if (shopNumber != 0 && shopNumber != 1) {
      return NO_SUCH;
    }
    if (!isLoan(loan) || !within(from, 0, LAST_WEEK) || !within(to, from, LAST_WEEK)) {
      return BAD_NUMBER;
    }
    Law law = shopNumber == 0 ? shop.law : shop.otherLaw;
    if (!law.lends(loan)) {
      return NOT_NOW;
    }
    return law.charge(loan, Law.halves(from, to));
  }

  private static boolean isLoan(int loan) {
    return within(loan, 1, MOST_PENCE);
  }

  // ---- kinds, people, weeks

  /** A KIND more: its number. */
  public int kind(int size, int low, int high, int glass, boolean cloth) {
    if (!within(size, 1, 9) || !within(low, 1, MOST_PENCE) || !within(high, low, MOST_PENCE) || !within(glass, 0, 99)) {
      return BAD_NUMBER;
    }
    if (shop.kindCount >= MOST_KINDS) {
      return FULL;
    }
    Kind k = shop.kinds[shop.kindCount];
    k.size = size;
    k.low = low;
    k.high = high;
    k.glass = glass;
    k.cloth = cloth;
    shop.kindCount++;
    return shop.kindCount - 1;
  }

  /** A PERSON more: its number. */
  public int person(int pay, int rent, int food, int purse) {
    if (!within(pay, 0, MOST_PENCE) || !within(rent, 0, MOST_PENCE) || !within(food, 0, MOST_PENCE) || !within(purse, 0, MOST_PURSE)) {
      return BAD_NUMBER;
    }
    if (shop.peopleCount >= MOST_PEOPLE) {
      return FULL;
    }
    Person p = shop.people[shop.peopleCount];
    p.pay = pay;
    p.rent = rent;
    p.food = food;
    p.purse = 2 * purse;
    p.suitLoan = 0;
    shop.peopleCount++;
    return shop.peopleCount - 1;
  }

  /** PURSE of a PERSON. */
  public int purse(int person) {
    return shop.hasPerson(person) ? shop.people[person].purse : NO_SUM;
  }

  /** WEEKS go by: WEEK then. */
  public int weeks(int n) {
    if (!within(n, 1, MOST_WEEKS_AT_ONCE)) {
      return BAD_NUMBER;
    }
    if (shop.week + n > LAST_WEEK) {
      return NOT_NOW;
    }
    shop.week += n;
    return shop.week;
  }

  // ---- pledges, tickets

  /** PLEDGING: the TICKET's number. */
  public int pledge(int kind, int person, int loan) {
    return shop.lendOn(kind, person, loan);
  }

  /** What a number is. */
  public int ticket(int number) {
    return shop.standing(number);
  }

  /** Of a number that LIVES the PLEDGE, who holds it, DUE. */
  public int held(int number, int what) {
    int serial = shop.living(number);
    if (serial == NONE) {
      return NO_SUCH;
    }
    Ticket paper = shop.tickets[serial];
    switch (what) {
      case 0:
        return paper.pledge;
      case 1:
        return paper.holder;
      case 2:
        return shop.due(shop.pledges[paper.pledge]);
      default:
        return NO_SUCH;
    }
  }

  /** FETCHING: what was paid. */
  public int fetch(int number) {
    int serial = shop.living(number);
    if (serial == NONE) {
      return NO_SUCH;
    }
    Ticket paper = shop.tickets[serial];
    Pledge thing = shop.pledges[paper.pledge];
    if (shop.isHeld(thing)) {
      return NOT_NOW;
    }
    int due = shop.due(thing);
    Person holder = shop.people[paper.holder];
    if (holder.purse < due) {
      return POOR;
    }
    holder.purse -= due;
    shop.enter(TAKEN, shop.interestOf(thing));
    shop.enter(WENT, 1);
    shop.enter(BACK, due);
    shop.leave(paper.pledge, FETCHED);
    return due;
  }

  /** RENEWING: the new number. */
  public int renew(int number) {
    int serial = shop.living(number);
    if (serial == NONE) {
      return NO_SUCH;
    }
    if (shop.ticketCount >= MOST_TICKETS) {
      return FULL;
    }
    Ticket paper = shop.tickets[serial];
    Pledge thing = shop.pledges[paper.pledge];
    int paid = shop.interestOf(thing);
    int cost = paid + shop.law.rule[TICKET];
    Person holder = shop.people[paper.holder];
    if (holder.purse < cost) {
      return POOR;
    }
    holder.purse -= cost;
    thing.week = shop.week;
    thing.renewed++;
    thing.renewedPaid += paid;
    shop.enter(TAKEN, paid);
    shop.enter(BACK, paid);
    paper.lives = false;
    return shop.issue(paper.pledge, paper.holder);
  }

  /** SWORN: the new number. */
  public int swear(int pledge) {
    if (!shop.hasPledge(pledge)) {
      return NO_SUCH;
    }
    if (shop.ticketCount >= MOST_TICKETS) {
      return FULL;
    }
    Pledge thing = shop.pledges[pledge];
    if (thing.state != HERE) {
      return NOT_NOW;
    }
    Person owner = shop.people[thing.owner];
    int sworn = shop.law.rule[SWORN];
    if (owner.purse < sworn) {
      return POOR;
    }
    owner.purse -= sworn;
    shop.killTickets(pledge);
    return shop.issue(pledge, thing.owner);
  }

  /** SOLD ON to a PERSON. */
  public int sell(int number, int person, int price) {
    int serial = shop.living(number);
    if (serial == NONE || !shop.hasPerson(person)) {
      return NO_SUCH;
    }
    Ticket paper = shop.tickets[serial];
    if (!within(price, 0, MOST_PENCE) || paper.holder == person) {
      return BAD_NUMBER;
    }
    Person buyer = shop.people[person];
    if (buyer.purse < 2 * price) {
      return POOR;
    }
    buyer.purse -= 2 * price;
    shop.people[paper.holder].purse += 2 * price;
    paper.holder = person;
    return 0;
  }

  /** What is known of a PLEDGE. */
  public int of(int pledge, int what) {
    if (!shop.hasPledge(pledge)) {
      return NO_PLEDGE;
    }
    Pledge thing = shop.pledges[pledge];
    switch (what) {
      case 0:
        return thing.kind;
      case 1:
        return thing.owner;
      case 2:
        return thing.loan;
      case 3:
        return thing.week;
      case 4:
        return thing.rack;
      case 5:
        return thing.state;
      case 6:
        return shop.isHeld(thing) ? 1 : 0;
      case 7:
        return shop.mothedLow(thing);
      case 8:
        return shop.mothedHigh(thing);
      default:
        return NO_PLEDGE;
    }
  }

  /** How many PLEDGES are PASSED, or the i-th. */
  public int passed(int i) {
    int found = 0;
    for (int p = 0; p < shop.pledgeCount; p++) {
      if (shop.isPassed(p)) {
        if (found == i) {
          return p;
        }
        found++;
      }
    }
    return i == NONE ? found : NONE;
  }

  /** SALE: OVER less SHORT. */
  public int sale(int pledge, int price) {
    if (!shop.isPassed(pledge) || shop.isHeld(shop.pledges[pledge]) || !within(price, 0, MOST_PURSE)) {
      return NO_SUM;
    }
    Pledge thing = shop.pledges[pledge];
    int due = shop.due(thing);
    int beyondLoan = Math.max(2 * price - 2 * thing.loan, 0);
    shop.enter(TAKEN, Math.min(beyondLoan, shop.interestOf(thing)));
    shop.enter(SALES, 1);
    shop.enter(BACK, Math.min(2 * price, due));
    thing.over = Math.max(2 * price - due, 0);
    thing.soldWeek = shop.week;
    shop.leave(pledge, SOLD);
    return 2 * price - due;
  }

  /** OVER of a SOLD PLEDGE is asked for: how much comes. */
  public int over(int pledge) {
    if (!shop.hasPledge(pledge)) {
      return NO_SUCH;
    }
    Pledge thing = shop.pledges[pledge];
    if (thing.state != SOLD || shop.week - thing.soldWeek >= OVER_WEEKS) {
      return NOT_NOW;
    }
    int sum = thing.over;
    thing.over = 0;
    shop.people[thing.owner].purse += sum;
    return sum;
  }

  // ---- what to lend, racks

  /** LEND on a KIND. */
  public int lend(int kind, int back, int halves) {
    if (!shop.hasKind(kind)) {
      return NO_SUCH;
    }
    if (!within(back, 0, 100) || !within(halves, 1, MOST_WEEKS_AT_ONCE)) {
      return BAD_NUMBER;
    }
    for (int loan = shop.law.greatest(); loan >= 1; loan--) {
      if (shop.law.gainParts(shop.kinds[kind], loan, back, halves) >= 0) {
        return loan;
      }
    }
    return 0;
  }

  /** GAINED on a hundred by a loan, thousandths. */
  public long gained(int kind, int loan, int back, int halves) {
    if (!shop.hasKind(kind)) {
      return NO_SUCH;
    }
    if (!isLoan(loan) || !within(back, 0, 100) || !within(halves, 1, MOST_WEEKS_AT_ONCE)) {
      return BAD_NUMBER;
    }
    if (!shop.law.lends(loan)) {
      return NOT_NOW;
    }
    Kind k = shop.kinds[kind];
    long parts = 100L * k.pennies();
    if (parts < 1) {
      return NOT_NOW;
    }
    return 1000 * shop.law.gainParts(k, loan, back, halves) / parts;
  }

  /** A RACK more: its number. */
  public int rack(int room, int steps) {
    if (!within(room, 1, 99) || !within(steps, 0, 99)) {
      return BAD_NUMBER;
    }
    if (shop.rackCount >= MOST_RACKS) {
      return FULL;
    }
    shop.racks[shop.rackCount][ROOM] = room;
    shop.racks[shop.rackCount][STEPS] = steps;
    shop.rackCount++;
    return shop.rackCount - 1;
  }

  /** PUT: how much room is left there. */
  public int put(int pledge, int rack) {
    if (!shop.hasPledge(pledge) || !shop.hasRack(rack)) {
      return NO_SUCH;
    }
    Pledge thing = shop.pledges[pledge];
    int left = shop.roomLeft(rack) - shop.kinds[thing.kind].size;
    if (thing.state != HERE || thing.rack == rack || left < 0) {
      return NOT_NOW;
    }
    thing.rack = rack;
    return left;
  }

  /** RUSH of PLEDGES told as bits: STEPS. */
  public int rush(int from, int bits) {
    if (!within(bits, 0, 255)) {
      return BAD_NUMBER;
    }
    if (!planner.gather(shop, from, bits)) {
      return NOT_NOW;
    }
    return planner.stepsTogether();
  }

  /** BEST of n PLEDGES: the sum, or the RACK of the i-th. */
  public int best(int row, int n, int i) {
    if (!within(row, 0, ROWS - 1)) {
      return NO_SUCH;
    }
    if (!within(n, 1, Planner.MOST_PLACED)) {
      return BAD_NUMBER;
    }
    if (planner.gatherUnracked(shop, n) < n) {
      return NOT_NOW;
    }
    if (rows[row].length == NONE) {
      return ROW_MISSING;
    }
    if (rows[row].length < n) {
      return ROW_SHORT;
    }
    if (!planner.weigh(rows[row], n)) {
      return BAD_NUMBER;
    }
    return planner.placing(shop, n, i);
  }

  // ---- lives, lots

  /** LIFE: the WEEK in which it SINKS. */
  public int life(int person, int kind, int loan, int weeks, int more) {
    int refused = lifeRefused(person, kind, loan, weeks, more);
    return refused != 0 ? refused : shop.sinkingWeek(person, loan, weeks, more);
  }

  private int lifeRefused(int person, int kind, int loan, int weeks, int more) {
    if (!shop.hasPerson(person) || !shop.hasKind(kind)) {
      return NO_SUCH;
    }
    if (!isLoan(loan) || !isLifeSpan(weeks, more)) {
      return BAD_NUMBER;
    }
    return shop.law.lends(loan) ? 0 : NOT_NOW;
  }

  private static boolean isLifeSpan(int weeks, int more) {
    return within(weeks, 1, MOST_LIFE_WEEKS) && within(more, 0, MOST_PENCE);
  }

  /** NEEDS: each more is tried, the least first. */
  public int needs(int person, int kind, int loan, int weeks) {
    int refused = lifeRefused(person, kind, loan, weeks, 0);
    if (refused != 0) {
      return refused;
    }
    for (int more = 0; more <= MOST_PENCE; more++) {
      if (shop.sinkingWeek(person, loan, weeks, more) == NONE) {
        return more;
      }
    }
    return NONE;
  }

  /** LOTS: the greatest sum, or how many PLEDGES are in the i-th LOT. */
  public int lots(int n, int i) {
    if (!within(n, 1, Planner.MOST_IN_LOTS)) {
      return BAD_NUMBER;
    }
    if (planner.gatherPassed(shop) < n) {
      return NOT_NOW;
    }
    return planner.cutLots(n, i);
  }

  // ---- looks, the other shop

  /** How many FIT a LOOK, or the i-th. */
  public int fits(int look, int i) {
    if (!within(look, 0, shop.looks.looks - 1)) {
      return NO_SUCH;
    }
    int found = 0;
    for (int p = 0; p < shop.pledgeCount; p++) {
      if (shop.fitsLook(look, p)) {
        if (found == i) {
          return p;
        }
        found++;
      }
    }
    return i == NONE ? found : NONE;
  }

  /** HELD for a LOOK from now on: how many PLEDGES. */
  public int hold(int look) {
    if (!within(look, 0, shop.looks.looks - 1)) {
      return NO_SUCH;
    }
    int found = 0;
    for (int p = 0; p < shop.pledgeCount; p++) {
      if (shop.fitsLook(look, p)) {
        Pledge thing = shop.pledges[p];
        thing.heldTill = Math.max(thing.heldTill, shop.week + shop.law.rule[HOLD]);
        found++;
      }
    }
    return found;
  }

  /** RUNS of a PERSON, or SAVED. */
  public int runs(int person, int what) {
    if (!shop.hasPerson(person) || !within(what, 0, 1)) {
      return NO_SUCH;
    }
    if (!shop.otherKept) {
      return NOT_NOW;
    }
    int running = 0;
    int saved = 0;
    for (int p = 0; p < shop.pledgeCount; p++) {
      int less = shop.savedThere(person, p);
      if (less > 0) {
        running++;
        saved += less;
      }
    }
    return what == 0 ? running : saved;
  }

  /** CHAIN of a PERSON. */
  public int chain(int person) {
    return shop.hasPerson(person) ? planner.longestChain(shop, person) : NO_SUCH;
  }

  /** BOOKS of a WEEK. */
  public int book(int week, int what) {
    if (!within(week, 0, shop.week) || !within(what, LENT, SALES)) {
      return NO_SUCH;
    }
    return shop.books[what][week];
  }

  /** WORST of n WEEKS: the WEEK, or how much. */
  public int worst(int n, int what) {
    if (!within(what, 0, 1)) {
      return NO_SUCH;
    }
    if (!within(n, 1, MOST_WEEKS_AT_ONCE) || n > shop.week + 1) {
      return BAD_NUMBER;
    }
    int sum = 0;
    for (int w = 0; w < n; w++) {
      sum += shop.lentLessBack(w);
    }
    int worstWeek = 0;
    int most = sum;
    for (int from = 1; from + n <= shop.week + 1; from++) {
      sum += shop.lentLessBack(from + n - 1) - shop.lentLessBack(from - 1);
      if (sum > most) {
        most = sum;
        worstWeek = from;
      }
    }
    return what == 0 ? worstWeek : most;
  }

  // ---- scribes, suits, trips, lists

  /** A SCRIBE's HAND. */
  public int scribe(int k, int a, int b, int c, int d, int e) {
    if (!within(k, 0, SCRIBES - 1)) {
      return NO_SUCH;
    }
    if (!areStrokes(a, b, c, d, e)) {
      return BAD_NUMBER;
    }
    int[] strokes = shop.hands[k];
    strokes[0] = a;
    strokes[1] = b;
    strokes[2] = c;
    strokes[3] = d;
    strokes[4] = e;
    return 0;
  }

  private static boolean areStrokes(int a, int b, int c, int d, int e) {
    return within(a, 0, 9) && within(b, 0, 9) && within(c, 0, 9) && within(d, 0, 9) && within(e, 0, 9);
  }

  /** A SCRIBE is on DUTY from now on: who was. */
  public int duty(int k) {
    if (!within(k, 0, SCRIBES - 1)) {
      return NO_SUCH;
    }
    int before = shop.onDuty;
    shop.onDuty = k;
    return before;
  }

  /** STROKES on a number. */
  public int hand(int number, int a, int b, int c, int d, int e) {
    int serial = shop.serial(number);
    if (serial == NONE) {
      return NO_SUCH;
    }
    if (!areStrokes(a, b, c, d, e)) {
      return BAD_NUMBER;
    }
    int least = farFrom(0, a, b, c, d, e);
    for (int k = 1; k < SCRIBES; k++) {
      least = Math.min(least, farFrom(k, a, b, c, d, e));
    }
    if (least > FAR_ENOUGH) {
      return 2;
    }
    return farFrom(shop.tickets[serial].writer, a, b, c, d, e) == least ? 0 : 1;
  }

  /** FAR of STROKES from a SCRIBE's HAND. */
  private int farFrom(int scribe, int a, int b, int c, int d, int e) {
    int[] own = shop.hands[scribe];
    return Math.abs(a - own[0]) + Math.abs(b - own[1]) + Math.abs(c - own[2]) + Math.abs(d - own[3]) + Math.abs(e - own[4]);
  }

  /** SUIT of a PERSON. */
  public int suit(int person, int kind, int loan) {
    if (!shop.hasPerson(person) || !shop.hasKind(kind)) {
      return NO_SUCH;
    }
    if (!isLoan(loan)) {
      return BAD_NUMBER;
    }
    shop.people[person].suitLoan = loan;
    return 0;
  }

  /** STREET: who SINKS, as bits. */
  public int street(int weeks, int more) {
    return isLifeSpan(weeks, more) ? shop.sinkingPeople(weeks, more) : BAD_NUMBER;
  }

  /** SHILLING: who SINKS, but not with 12 pence more. */
  public int shilling(int weeks) {
    if (!isLifeSpan(weeks, 0)) {
      return BAD_NUMBER;
    }
    return shop.sinkingPeople(weeks, 0) & ~shop.sinkingPeople(weeks, SHILLING_PENCE);
  }

  /** TRIPS for PLEDGES told as bits. */
  public int trips(int from, int bits, int arms) {
    if (!within(bits, 0, 255) || !within(arms, 1, 99)) {
      return BAD_NUMBER;
    }
    if (!planner.gather(shop, from, bits)) {
      return NOT_NOW;
    }
    return planner.leastTrips(arms);
  }

  /** RENEWALS of a PLEDGE: how often, or INTEREST by them. */
  public int renewals(int pledge, int what) {
    if (!shop.hasPledge(pledge) || !within(what, 0, 1)) {
      return NO_SUCH;
    }
    return what == 0 ? shop.pledges[pledge].renewed : shop.pledges[pledge].renewedPaid;
  }

  /** FORESEEN by MOTHED LOW or HIGH. */
  public int foresee(boolean high) {
    int sum = 0;
    for (int p = 0; p < shop.pledgeCount; p++) {
      if (shop.isPassed(p)) {
        Pledge thing = shop.pledges[p];
        int price = high ? shop.mothedHigh(thing) : shop.mothedLow(thing);
        sum += 2 * price - shop.due(thing);
      }
    }
    return sum;
  }

  /** A LISTED thing more: its number. */
  public int list(int kind, int week) {
    if (!shop.hasKind(kind)) {
      return NO_SUCH;
    }
    if (!within(week, 0, LAST_WEEK)) {
      return BAD_NUMBER;
    }
    if (shop.listedCount >= MOST_LISTED) {
      return FULL;
    }
    shop.listed[shop.listedCount][OF_KIND] = kind;
    shop.listed[shop.listedCount][FROM_WEEK] = week;
    shop.listedCount++;
    return shop.listedCount - 1;
  }

  /** How many are MATCHED, or the PLEDGE of the i-th LISTED. */
  public int match(int i) {
    if (i != NONE && !within(i, 0, shop.listedCount - 1)) {
      return NONE;
    }
    return planner.matching(shop, i);
  }

  // ---- rows, images

  /** A ROW has n numbers of a sort. */
  public int row(int row, int sort, int n) {
    if (!within(row, 0, ROWS - 1) || !within(sort, 0, 3)) {
      return NO_SUCH;
    }
    if (!within(n, 0, ROW_ROOM)) {
      return BAD_NUMBER;
    }
    rows[row].begin(sort, n);
    return 0;
  }

  /** Number i of a ROW is v, cut to its sort: as it is there. */
  public long write(int row, int i, long v) {
    if (!within(row, 0, ROWS - 1)) {
      return NO_SUCH;
    }
    if (rows[row].length == NONE) {
      return ROW_MISSING;
    }
    if (!within(i, 0, rows[row].length - 1)) {
      return ROW_SHORT;
    }
    return rows[row].set(i, v);
  }

  /** PLEDGES as a clerk copies them from a ROW: how many came. */
  public int clerk(int row) {
    if (!within(row, 0, ROWS - 1)) {
      return NO_SUCH;
    }
    Row from = rows[row];
    if (from.length == NONE) {
      return ROW_MISSING;
    }
    int came = 0;
    for (int i = 0; i + 3 <= from.length; i += 3) {
      if (shop.lendOn(from.small(i), from.small(i + 1), from.small(i + 2)) < 0) {
        return came;
      }
      came++;
    }
    return came;
  }

  /** An IMAGE is made. */
  public int image(int i) {
    if (!within(i, 0, IMAGES - 1)) {
      return NO_SUCH;
    }
    images[i].copyFrom(shop);
    imageMade[i] = true;
    return 0;
  }

  /** All that is in an IMAGE is as it was. */
  public int restore(int i) {
    if (!within(i, 0, IMAGES - 1)) {
      return NO_SUCH;
    }
    if (!imageMade[i]) {
      return NOT_NOW;
    }
    shop.copyFrom(images[i]);
    return 0;
  }

  /** How many there are of what. */
  public int count(int what) {
    switch (what) {
      case 0:
        return shop.kindCount;
      case 1:
        return shop.peopleCount;
      case 2:
        return shop.pledgeCount;
      case 3:
        return shop.ticketCount;
      case 4:
        return shop.rackCount;
      case 5:
        return shop.law.lines;
      case 6:
        return shop.looks.looks;
      case 7:
        return reader.tape.fed;
      case 8:
        return shop.week;
      case 9:
        return shop.countHere();
      case 10:
        return shop.listedCount;
      case 11:
        return shop.onDuty;
      default:
        return within(what, 20, 19 + shop.rackCount) ? shop.roomLeft(what - 20) : NONE;
    }
  }

  /** THE LAW, or THE OTHER SHOP's. */
  private static final class Law {
    int uptos;
    final int[] upto = new int[MOST_UPTOS];
    final int[] take = new int[MOST_UPTOS];
    final int[] per = new int[MOST_UPTOS];
    final int[] rule = new int[RULES];
    int lines;

    Law() {
      clear();
    }

    void clear() {
      uptos = 0;
      lines = 0;
      for (int i = 0; i < RULES; i++) {
        rule[i] = RULE_WITHOUT[i];
      }
    }

    void copyFrom(Law from) {
      uptos = from.uptos;
      lines = from.lines;
      System.arraycopy(from.upto, 0, upto, 0, MOST_UPTOS);
      System.arraycopy(from.take, 0, take, 0, MOST_UPTOS);
      System.arraycopy(from.per, 0, per, 0, MOST_UPTOS);
      System.arraycopy(from.rule, 0, rule, 0, RULES);
    }

    static int halves(int from, int to) {
      return 1 + (to - from) / 2;
    }

    boolean lends(int loan) {
      return loan <= greatest();
    }

    /** The greatest loan there is; 0: none. */
    int greatest() {
      return uptos > 0 ? upto[uptos - 1] : 0;
    }

    /** INTEREST; of what can't be lent it is least. */
    int charge(int loan, int halves) {
      return Math.max(rule[LEAST], halves * takenByHalf(loan));
    }

    int takenByHalf(int loan) {
      for (int i = 0; i < uptos; i++) {
        if (upto[i] >= loan) {
          return per[i] < 1 ? 0 : take[i] * ((loan + per[i] - 1) / per[i]);
        }
      }
      return 0;
    }

    /** GAINED times 100 times the pennies from LOW to HIGH, which makes it whole. */
    long gainParts(Kind kind, int loan, int back, int halves) {
      long interest = charge(loan, halves);
      long pennies = kind.pennies();
      long fetched = (100 - kind.glass) * kind.fetchedUpTo(2L * loan + interest);
      return 100L * back * interest * pennies + (100 - back) * (fetched - 200L * loan * pennies);
    }
  }

  /** LOOKS: each TEST is kept as its FACTS with NOT, AND, OR behind what they join. */
  private static final class Looks {
    int looks;
    int size;
    final int[] begin = new int[MOST_LOOKS + 1];
    final int[] sign = new int[TAPE_ROOM];
    final int[] number = new int[TAPE_ROOM];

    void clear() {
      looks = 0;
      size = 0;
    }

    void copyFrom(Looks from) {
      looks = from.looks;
      size = from.size;
      System.arraycopy(from.begin, 0, begin, 0, begin.length);
      System.arraycopy(from.sign, 0, sign, 0, size);
      System.arraycopy(from.number, 0, number, 0, size);
    }

    void add(int newSign, int newNumber) {
      if (size < TAPE_ROOM) {
        sign[size] = newSign;
        number[size] = newNumber;
        size++;
      }
    }

    /** What was added since the last LOOK is a LOOK. */
    void close() {
      if (looks < MOST_LOOKS) {
        looks++;
        begin[looks] = size;
      }
    }

    /** The TEST of a LOOK; the bits of open are what is known and not joined yet, the latest lowest (with 8 not and ( open they are few). */
    boolean holds(int look, Pledge thing, Kind kind) {
      long open = 0;
      for (int i = begin[look]; i < begin[look + 1]; i++) {
        if (sign[i] == NOT) {
          open ^= 1;
        } else if (sign[i] == AND) {
          open = (open >> 1) & (open | -2L);
        } else if (sign[i] == OR) {
          open = (open >> 1) | (open & 1);
        } else {
          open = (open << 1) | (isFact(i, thing, kind) ? 1 : 0);
        }
      }
      return (open & 1) == 1;
    }

    private boolean isFact(int i, Pledge thing, Kind kind) {
      int n = number[i];
      switch (sign[i]) {
        case CLOTH:
          return kind.cloth;
        case KIND:
          return thing.kind == n;
        case SIZE:
          return kind.size == n;
        case ABOVE:
          return thing.loan > n;
        case SINCE:
          return thing.week >= n;
        default:
          return thing.owner == n;
      }
    }
  }

  /** THE TAPE; its first bytes are cut into TOKENS as a text, and it stands at one of them. */
  private static final class Tape {
    static final int END = 0;
    static final int STRAY = 1;
    static final int WORD = 2;
    static final int NUMBER = 3;
    static final int SIGN = 4;
    private static final int MOST_DIGITS = 3;

    private final byte[] bytes = new byte[TAPE_ROOM];
    int fed;
    private int length;
    private int behind;
    int sort;
    int place;
    int value;

    void append(int v) {
      for (int shift = 24; shift >= 0 && fed < TAPE_ROOM; shift -= 8) {
        bytes[fed] = (byte) (v >>> shift);
        fed++;
      }
    }

    /** The first n bytes are a text; the next ones that are fed come in their place. */
    void begin(int n) {
      length = Math.min(n, fed);
      fed = 0;
      behind = 0;
      step();
    }

    /** On to the next TOKEN. */
    void step() {
      place = behind;
      while (place < length && (bytes[place] == ' ' || bytes[place] == '\n')) {
        place++;
      }
      behind = place;
      value = 0;
      while (behind < length && 'a' <= bytes[behind] && bytes[behind] <= 'z') {
        behind++;
      }
      if (behind > place) {
        sort = WORD;
        return;
      }
      while (behind < length && '0' <= bytes[behind] && bytes[behind] <= '9') {
        value = behind - place < MOST_DIGITS ? 10 * value + bytes[behind] - '0' : 0;
        behind++;
      }
      if (behind > place) {
        sort = behind - place <= MOST_DIGITS ? NUMBER : STRAY;
      } else if (place >= length) {
        sort = END;
      } else {
        value = bytes[place];
        sort = value == ';' || value == '(' || value == ')' ? SIGN : STRAY;
        behind++;
      }
    }

    boolean isSign(char sign) {
      return sort == SIGN && value == sign;
    }

    boolean spells(String word) {
      if (sort != WORD || behind - place != word.length()) {
        return false;
      }
      for (int i = 0; i < word.length(); i++) {
        if (bytes[place + i] != word.charAt(i)) {
          return false;
        }
      }
      return true;
    }
  }

  /** Reads texts. What was read counts only if there is no FAULT; behind the first FAULT nothing more is read. */
  private static final class Reader {
    final Tape tape = new Tape();
    final Law law = new Law();
    final Looks looks = new Looks();
    private int rulesTold = 0;
    int fault = 0;
    int faultPlace = NONE;

    private void begin(int n) {
      fault = 0;
      faultPlace = NONE;
      tape.begin(n);
    }

    boolean readLaw(int n) {
      begin(n);
      law.clear();
      rulesTold = 0;
      for (int i = 0; i < n && fault == 0 && tape.sort != Tape.END; i++) {
        if (tape.spells("upto")) {
          readUpto();
        } else {
          readRule();
        }
        pass(tape.isSign(';'));
        law.lines++;
      }
      return fault == 0;
    }

    private void readUpto() {
      int i = law.uptos;
      if (i >= MOST_UPTOS) {
        refuse(TOLD_AGAIN);
        return;
      }
      tape.step();
      law.upto[i] = passNumber(law.greatest() + 1, MOST_PENCE);
      pass(tape.spells("take"));
      law.take[i] = passNumber(0, 99);
      pass(tape.spells("per"));
      law.per[i] = passNumber(1, MOST_PENCE);
      law.uptos++;
    }

    private void readRule() {
      int rule = ruleHere();
      if (rule == NONE) {
        refuse(OUT_OF_PLACE);
        return;
      }
      if ((rulesTold >> rule & 1) == 1) {
        refuse(TOLD_AGAIN);
        return;
      }
      rulesTold |= 1 << rule;
      tape.step();
      law.rule[rule] = passNumber(RULE_LOW[rule], RULE_HIGH[rule]);
    }

    private int ruleHere() {
      if (tape.spells("least")) {
        return LEAST;
      }
      if (tape.spells("ticket")) {
        return TICKET;
      }
      if (tape.spells("sworn")) {
        return SWORN;
      }
      if (tape.spells("year")) {
        return YEAR;
      }
      if (tape.spells("moth")) {
        return MOTH;
      }
      return tape.spells("hold") ? HOLD : NONE;
    }

    boolean readLooks(int n) {
      begin(n);
      looks.clear();
      for (int i = 0; i < n && fault == 0 && tape.sort != Tape.END; i++) {
        if (looks.looks >= MOST_LOOKS && tape.spells("seek")) {
          refuse(TOLD_AGAIN);
        }
        pass(tape.spells("seek"));
        pass(tape.spells("if"));
        readTest(0);
        pass(tape.isSign(';'));
        looks.close();
      }
      return fault == 0;
    }

    private void readTest(int open) {
      readPart(open);
      for (int i = 0; i < TAPE_ROOM && fault == 0 && tape.spells("or"); i++) {
        tape.step();
        readPart(open);
        looks.add(OR, 0);
      }
    }

    private void readPart(int open) {
      readFact(open);
      for (int i = 0; i < TAPE_ROOM && fault == 0 && tape.spells("and"); i++) {
        tape.step();
        readFact(open);
        looks.add(AND, 0);
      }
    }

    /** A FACT around which so many not and ( are open. */
    private void readFact(int open) {
      if (fault != 0) {
        return;
      }
      if (tape.spells("not") || tape.isSign('(')) {
        readOpened(open + 1);
        return;
      }
      int fact = factHere();
      if (fact == NONE) {
        refuse(OUT_OF_PLACE);
        return;
      }
      tape.step();
      looks.add(fact, fact == CLOTH ? 0 : passNumber(FACT_LOW[fact], FACT_HIGH[fact]));
    }

    /** What a not or ( opens, which is the open-th of them around one another. */
    private void readOpened(int open) {
      if (open > MOST_OPEN) {
        refuse(TOO_DEEP);
        return;
      }
      boolean not = tape.spells("not");
      tape.step();
      if (not) {
        readFact(open);
        looks.add(NOT, 0);
      } else {
        readTest(open);
        pass(tape.isSign(')'));
      }
    }

    private int factHere() {
      if (tape.spells("cloth")) {
        return CLOTH;
      }
      if (tape.spells("kind")) {
        return KIND;
      }
      if (tape.spells("size")) {
        return SIZE;
      }
      if (tape.spells("above")) {
        return ABOVE;
      }
      if (tape.spells("since")) {
        return SINCE;
      }
      return tape.spells("by") ? BY : NONE;
    }

    /** On, if what is due is here. */
    private void pass(boolean due) {
      if (fault == 0) {
        if (due) {
          tape.step();
        } else {
          refuse(OUT_OF_PLACE);
        }
      }
    }

    private int passNumber(int low, int high) {
      if (fault != 0) {
        return 0;
      }
      int n = tape.value;
      if (tape.sort != Tape.NUMBER) {
        refuse(OUT_OF_PLACE);
      } else if (n < low || n > high) {
        refuse(OUT_OF_BOUNDS);
      } else {
        tape.step();
      }
      return n;
    }

    /** The TOKEN here has a FAULT of this kind, or of the least kind if it is no TOKEN at all. */
    private void refuse(int kind) {
      fault = tape.sort == Tape.STRAY ? NO_TOKEN : kind;
      faultPlace = tape.place;
    }
  }

  /** A KIND. */
  private static final class Kind {
    int size;
    int low;
    int high;
    int glass;
    boolean cloth;

    void copyFrom(Kind from) {
      size = from.size;
      low = from.low;
      high = from.high;
      glass = from.glass;
      cloth = from.cloth;
    }

    int pennies() {
      return high - low + 1;
    }

    /** Twice the price, but no more than most, summed over whole pence from LOW to HIGH. */
    long fetchedUpTo(long most) {
      long lastWhole = Math.max(low - 1, Math.min(high, most / 2));
      return (low + lastWhole) * (lastWhole - low + 1) + (high - lastWhole) * most;
    }
  }

  /** A PERSON; suitLoan is 0 without a SUIT (whose KIND no call tells). */
  private static final class Person {
    int pay;
    int rent;
    int food;
    int purse;
    int suitLoan;

    void copyFrom(Person from) {
      pay = from.pay;
      rent = from.rent;
      food = from.food;
      purse = from.purse;
      suitLoan = from.suitLoan;
    }
  }

  /** A PLEDGE; week is that from which INTEREST counts, heldTill the first in which it is not HELD any more. */
  private static final class Pledge {
    int kind;
    int owner;
    int loan;
    int week;
    int made;
    int rack;
    int state;
    int heldTill;
    int fetchedWeek;
    int soldWeek;
    int over;
    int renewed;
    int renewedPaid;

    void begin(int newKind, int newOwner, int newLoan, int now) {
      kind = newKind;
      owner = newOwner;
      loan = newLoan;
      week = now;
      made = now;
      rack = NONE;
      state = HERE;
      heldTill = 0;
      fetchedWeek = NONE;
      soldWeek = NONE;
      over = 0;
      renewed = 0;
      renewedPaid = 0;
    }

    void copyFrom(Pledge from) {
      kind = from.kind;
      owner = from.owner;
      loan = from.loan;
      week = from.week;
      made = from.made;
      rack = from.rack;
      state = from.state;
      heldTill = from.heldTill;
      fetchedWeek = from.fetchedWeek;
      soldWeek = from.soldWeek;
      over = from.over;
      renewed = from.renewed;
      renewedPaid = from.renewedPaid;
    }
  }

  /** A TICKET. */
  private static final class Ticket {
    int pledge;
    int holder;
    int writer;
    boolean lives;

    void copyFrom(Ticket from) {
      pledge = from.pledge;
      holder = from.holder;
      writer = from.writer;
      lives = from.lives;
    }
  }

  /** All that an IMAGE keeps. */
  private static final class Shop {
    final Law law = new Law();
    final Law otherLaw = new Law();
    boolean otherKept;
    final Looks looks = new Looks();
    int week;
    final Kind[] kinds = new Kind[MOST_KINDS];
    int kindCount;
    final Person[] people = new Person[MOST_PEOPLE];
    int peopleCount;
    final Pledge[] pledges = new Pledge[MOST_PLEDGES];
    int pledgeCount;
    final Ticket[] tickets = new Ticket[MOST_TICKETS];
    int ticketCount;
    final int[][] racks = new int[MOST_RACKS][2];
    int rackCount;
    final int[][] books = new int[BOOKS][LAST_WEEK + 1];
    final int[][] hands = new int[SCRIBES][STROKES];
    int onDuty;
    final int[][] listed = new int[MOST_LISTED][2];
    int listedCount;

    Shop() {
      for (int i = 0; i < MOST_KINDS; i++) {
        kinds[i] = new Kind();
      }
      for (int i = 0; i < MOST_PEOPLE; i++) {
        people[i] = new Person();
      }
      for (int i = 0; i < MOST_PLEDGES; i++) {
        pledges[i] = new Pledge();
      }
      for (int i = 0; i < MOST_TICKETS; i++) {
        tickets[i] = new Ticket();
      }
    }

    void copyFrom(Shop from) {
      law.copyFrom(from.law);
      otherLaw.copyFrom(from.otherLaw);
      otherKept = from.otherKept;
      looks.copyFrom(from.looks);
      week = from.week;
      copyThings(from);
      copyRacksAndLists(from);
      copyRows(from.books, books);
      copyRows(from.hands, hands);
      onDuty = from.onDuty;
    }

    private void copyThings(Shop from) {
      kindCount = from.kindCount;
      for (int i = 0; i < kindCount; i++) {
        kinds[i].copyFrom(from.kinds[i]);
      }
      peopleCount = from.peopleCount;
      for (int i = 0; i < peopleCount; i++) {
        people[i].copyFrom(from.people[i]);
      }
      pledgeCount = from.pledgeCount;
      for (int i = 0; i < pledgeCount; i++) {
        pledges[i].copyFrom(from.pledges[i]);
      }
      ticketCount = from.ticketCount;
      for (int i = 0; i < ticketCount; i++) {
        tickets[i].copyFrom(from.tickets[i]);
      }
    }

    private void copyRacksAndLists(Shop from) {
      rackCount = from.rackCount;
      copyRows(from.racks, racks);
      listedCount = from.listedCount;
      copyRows(from.listed, listed);
    }

    private static void copyRows(int[][] from, int[][] to) {
      for (int i = 0; i < to.length; i++) {
        System.arraycopy(from[i], 0, to[i], 0, to[i].length);
      }
    }

    boolean hasKind(int i) {
      return 0 <= i && i < kindCount;
    }

    boolean hasPerson(int i) {
      return 0 <= i && i < peopleCount;
    }

    boolean hasPledge(int i) {
      return 0 <= i && i < pledgeCount;
    }

    boolean hasRack(int i) {
      return 0 <= i && i < rackCount;
    }

    int countHere() {
      int here = 0;
      for (int p = 0; p < pledgeCount; p++) {
        if (pledges[p].state == HERE) {
          here++;
        }
      }
      return here;
    }

    int roomLeft(int rack) {
      int left = racks[rack][ROOM];
      for (int p = 0; p < pledgeCount; p++) {
        if (pledges[p].rack == rack) {
          left -= kinds[pledges[p].kind].size;
        }
      }
      return left;
    }

    /** PLEDGING: the new number, or why not. */
    int lendOn(int kind, int person, int loan) {
      if (!hasKind(kind) || !hasPerson(person)) {
        return NO_SUCH;
      }
      if (!isLoan(loan)) {
        return BAD_NUMBER;
      }
      if (pledgeCount >= MOST_PLEDGES || ticketCount >= MOST_TICKETS) {
        return FULL;
      }
      if (!law.lends(loan)) {
        return NOT_NOW;
      }
      pledges[pledgeCount].begin(kind, person, loan, week);
      pledgeCount++;
      people[person].purse += 2 * loan - law.rule[TICKET];
      enter(LENT, 2 * loan);
      enter(CAME, 1);
      return issue(pledgeCount - 1, person);
    }

    /** A TICKET more, written by who is on DUTY: its number. */
    int issue(int pledge, int holder) {
      if (ticketCount >= MOST_TICKETS) {
        return FULL;
      }
      Ticket paper = tickets[ticketCount];
      paper.pledge = pledge;
      paper.holder = holder;
      paper.writer = onDuty;
      paper.lives = true;
      ticketCount++;
      return 100 * ticketCount + lastFigures(ticketCount);
    }

    private static int lastFigures(int serial) {
      return (31 * serial + 17) % 97;
    }

    int standing(int number) {
      if (number < 100 || number % 100 != lastFigures(number / 100)) {
        return WRONG_FIGURES;
      }
      if (number / 100 > ticketCount) {
        return NEVER_WAS;
      }
      return tickets[number / 100 - 1].lives ? LIVES : DEAD;
    }

    /** Where in tickets that of a number is, DEAD or not, or NONE. */
    int serial(int number) {
      int is = standing(number);
      return is == LIVES || is == DEAD ? number / 100 - 1 : NONE;
    }

    int living(int number) {
      return standing(number) == LIVES ? number / 100 - 1 : NONE;
    }

    void killTickets(int pledge) {
      for (int t = 0; t < ticketCount; t++) {
        if (tickets[t].pledge == pledge) {
          tickets[t].lives = false;
        }
      }
    }

    /** A PLEDGE isn't HERE any more. */
    void leave(int pledge, int state) {
      pledges[pledge].state = state;
      pledges[pledge].rack = NONE;
      if (state == FETCHED) {
        pledges[pledge].fetchedWeek = week;
      }
      killTickets(pledge);
    }

    void enter(int book, int sum) {
      books[book][week] += sum;
    }

    int lentLessBack(int w) {
      return books[LENT][w] - books[BACK][w];
    }

    int interestOf(Pledge thing) {
      return law.charge(thing.loan, Law.halves(thing.week, week));
    }

    int due(Pledge thing) {
      return 2 * thing.loan + interestOf(thing);
    }

    boolean isHeld(Pledge thing) {
      return week < thing.heldTill;
    }

    boolean isPassed(int pledge) {
      return hasPledge(pledge) && pledges[pledge].state == HERE && week - pledges[pledge].week >= law.rule[YEAR];
    }

    int mothedLow(Pledge thing) {
      return kinds[thing.kind].low * hundredthsLeft(thing) / 100;
    }

    int mothedHigh(Pledge thing) {
      return kinds[thing.kind].high * hundredthsLeft(thing) / 100;
    }

    private int hundredthsLeft(Pledge thing) {
      if (!kinds[thing.kind].cloth) {
        return 100;
      }
      return Math.max(0, 100 - law.rule[MOTH] * ((week - thing.week) / 10));
    }

    boolean fitsLook(int look, int pledge) {
      Pledge thing = pledges[pledge];
      return thing.state == HERE && looks.holds(look, thing, kinds[thing.kind]);
    }

    /** How much less INTEREST of a PLEDGE would be at THE OTHER SHOP, if it is the PERSON's and can be lent there; else 0 or below. */
    int savedThere(int person, int pledge) {
      Pledge thing = pledges[pledge];
      if (thing.owner != person || thing.state != HERE || !otherLaw.lends(thing.loan)) {
        return 0;
      }
      return interestOf(thing) - otherLaw.charge(thing.loan, Law.halves(thing.week, week));
    }

    /** LIFE: the WEEK of it in which the PERSON SINKS, or NONE. */
    int sinkingWeek(int person, int loan, int weeks, int more) {
      Person who = people[person];
      int purse = who.purse + 2 * more;
      int left = 2 * (who.pay - who.rent - who.food);
      int byHalf = law.takenByHalf(loan);
      int since = NONE;
      for (int w = 0; w < weeks; w++) {
        if (since != NONE) {
          int due = 2 * loan + Math.max(law.rule[LEAST], Law.halves(since, w) * byHalf);
          if (purse >= due) {
            purse -= due;
            since = NONE;
          }
        }
        purse += left;
        if (since == NONE && purse < 0) {
          purse += 2 * loan - law.rule[TICKET];
          since = w;
        }
        if (purse < 0) {
          return w;
        }
      }
      return NONE;
    }

    /** PEOPLE with a SUIT that can be lent on, who SINK: as bits. */
    int sinkingPeople(int weeks, int more) {
      int bits = 0;
      for (int p = 0; p < peopleCount; p++) {
        int loan = people[p].suitLoan;
        if (loan > 0 && law.lends(loan) && sinkingWeek(p, loan, weeks, more) != NONE) {
          bits |= 1 << p;
        }
      }
      return bits;
    }
  }

  /** A ROW; its length is NONE while it is MISSING. */
  private static final class Row {
    int length = NONE;
    private int sort;
    private final long[] numbers = new long[ROW_ROOM];

    void begin(int newSort, int n) {
      sort = newSort;
      length = n;
      for (int i = 0; i < ROW_ROOM; i++) {
        numbers[i] = 0;
      }
    }

    long set(int i, long v) {
      numbers[i] = cut(v);
      return numbers[i];
    }

    private long cut(long v) {
      switch (sort) {
        case 0:
          return (byte) v;
        case 1:
          return (short) v;
        case 2:
          return (int) v;
        default:
          return v;
      }
    }

    /** The i-th number where it is 0 to 999, which holds all that a clerk or a weight can be; else NONE. */
    int small(int i) {
      long v = numbers[i];
      return 0 <= v && v <= MOST_PENCE ? (int) v : NONE;
    }
  }

  /** Finds what is least or most; its arrays are made once and used by every call. */
  private static final class Planner {
    static final int MOST_PLACED = 7;
    static final int MOST_IN_LOTS = 10;
    private static final int MOST_WEIGHT = 99;
    private static final int MOST_CARRIED = 8;
    private static final int SETS = 256;
    private static final long FIGURES = 10000000L;
    private static final long NO_PLACE = 1L << 62;
    private static final int TOO_MUCH = 1 << 30;
    private static final int[] FIGURE = {1000000, 100000, 10000, 1000, 100, 10, 1};

    // What was gathered, one behind the other, and what belongs to sets of it (as bits).
    private int gathered;
    private final int[] sizes = new int[MOST_IN_LOTS];
    private final int[] worth = new int[MOST_IN_LOTS];
    private final int[] setSize = new int[SETS];
    private final int[] setWorth = new int[SETS];
    private final int[] setFigures = new int[SETS];
    private final int[] setMost = new int[SETS];
    private final long[] leastPlace = new long[SETS];
    private final int[] leastSteps = new int[SETS];
    private final int[][] leastLot = new int[MOST_IN_LOTS + 1][MOST_IN_LOTS + 1];
    private final int[] longest = new int[MOST_PLEDGES];
    private final int[] pledgeOf = new int[MOST_LISTED];
    private final boolean[] matches = new boolean[MOST_LISTED];
    private final boolean[] taken = new boolean[MOST_PLEDGES];

    /** PLEDGES told as bits from one on, with SIZES and STEPS: whether all are HERE on a RACK. */
    boolean gather(Shop shop, int from, int bits) {
      gathered = 0;
      for (int j = 0; j < MOST_CARRIED; j++) {
        if ((bits >> j & 1) == 1) {
          int p = from + j;
          if (!shop.hasPledge(p)) {
            return false;
          }
          Pledge thing = shop.pledges[p];
          if (!shop.hasRack(thing.rack)) {
            return false;
          }
          add(shop.kinds[thing.kind].size, shop.racks[thing.rack][STEPS]);
        }
      }
      return true;
    }

    private void add(int size, int value) {
      if (gathered < MOST_IN_LOTS) {
        sizes[gathered] = size;
        worth[gathered] = value;
        gathered++;
      }
    }

    int stepsTogether() {
      int sum = 0;
      for (int j = 0; j < gathered; j++) {
        sum += 2 * worth[j];
      }
      return sum;
    }

    /** The first n PLEDGES HERE that are on no RACK, with SIZES: how many there are. */
    int gatherUnracked(Shop shop, int n) {
      gathered = 0;
      for (int p = 0; p < shop.pledgeCount && gathered < n; p++) {
        Pledge thing = shop.pledges[p];
        if (thing.state == HERE && thing.rack == NONE) {
          add(shop.kinds[thing.kind].size, 0);
        }
      }
      return gathered;
    }

    /** The ROW's first numbers are the weights of what was gathered: whether all can be. */
    boolean weigh(Row row, int n) {
      for (int j = 0; j < n; j++) {
        worth[j] = row.small(j);
        if (worth[j] == NONE || worth[j] > MOST_WEIGHT) {
          return false;
        }
      }
      return true;
    }

    /**
     * BEST. RACK by RACK, of each set of PLEDGES the least that it costs on the RACKS so far. The cost stands ahead of seven figures, the
     * RACKS PLEDGE by PLEDGE: so the least number also has the first RACKS of like ones.
     */
    int placing(Shop shop, int n, int i) {
      int all = (1 << n) - 1;
      sumSets(n);
      for (int set = 1; set <= all; set++) {
        leastPlace[set] = NO_PLACE;
      }
      leastPlace[0] = 0;
      for (int rack = 0; rack < shop.rackCount; rack++) {
        placeOn(rack, shop.roomLeft(rack), shop.racks[rack][STEPS], all);
      }
      long least = leastPlace[all];
      if (least == NO_PLACE || i < NONE || i >= n) {
        return NONE;
      }
      return (int) (i == NONE ? least / FIGURES : least / FIGURE[i] % 10);
    }

    private void sumSets(int n) {
      setSize[0] = 0;
      setWorth[0] = 0;
      setFigures[0] = 0;
      setMost[0] = 0;
      for (int j = 0; j < n; j++) {
        int bit = 1 << j;
        int figure = j < FIGURE.length ? FIGURE[j] : 0;
        for (int set = bit; set < 2 * bit; set++) {
          setSize[set] = setSize[set - bit] + sizes[j];
          setWorth[set] = setWorth[set - bit] + worth[j];
          setFigures[set] = setFigures[set - bit] + figure;
          setMost[set] = Math.max(setMost[set - bit], worth[j]);
        }
      }
    }

    /** Sets go from the greatest down, so that what is left of one is still without this RACK. */
    private void placeOn(int rack, int room, int steps, int all) {
      for (int set = all; set > 0; set--) {
        for (int part = set; part > 0; part = (part - 1) & set) {
          long rest = leastPlace[set - part];
          if (setSize[part] <= room && rest != NO_PLACE) {
            long cost = rest + FIGURES * setWorth[part] * steps + (long) rack * setFigures[part];
            leastPlace[set] = Math.min(leastPlace[set], cost);
          }
        }
      }
    }

    /** TRIPS for what was gathered; each set's lowest is brought with some others of it, and what is left is a lesser set. */
    int leastTrips(int arms) {
      int all = (1 << gathered) - 1;
      sumSets(gathered);
      leastSteps[0] = 0;
      for (int set = 1; set <= all; set++) {
        leastSteps[set] = TOO_MUCH;
        int lowest = set & -set;
        for (int part = set; part > 0; part = (part - 1) & set) {
          int rest = leastSteps[set - part];
          if ((part & lowest) != 0 && rest != TOO_MUCH && setSize[part] <= arms) {
            leastSteps[set] = Math.min(leastSteps[set], rest + 2 * setMost[part]);
          }
        }
      }
      return leastSteps[all] == TOO_MUCH ? NONE : leastSteps[all];
    }

    /** The first PLEDGES that are PASSED, with MOTHED LOW: how many. */
    int gatherPassed(Shop shop) {
      gathered = 0;
      for (int p = 0; p < shop.pledgeCount; p++) {
        if (shop.isPassed(p)) {
          add(0, shop.mothedLow(shop.pledges[p]));
        }
      }
      return gathered;
    }

    /** LOTS of what was gathered. */
    int cutLots(int n, int i) {
      findLeastLots(n);
      int most = leastLot[n][0];
      if (i == NONE) {
        return most;
      }
      int from = 0;
      for (int lot = 0; lot < n; lot++) {
        int behind = lotEnd(from, n - lot, most);
        if (lot == i) {
          return behind - from;
        }
        from = behind;
      }
      return NONE;
    }

    /** leastLot of lots and from: the least greatest sum by which all from there on are in so many LOTS. */
    private void findLeastLots(int n) {
      for (int lots = 0; lots <= n; lots++) {
        for (int from = 0; from <= gathered; from++) {
          leastLot[lots][from] = lots == 0 && from == gathered ? 0 : TOO_MUCH;
        }
      }
      for (int lots = 1; lots <= n; lots++) {
        for (int from = 0; from < gathered; from++) {
          int sum = 0;
          for (int behind = from + 1; behind <= gathered; behind++) {
            sum += worth[behind - 1];
            leastLot[lots][from] = Math.min(leastLot[lots][from], Math.max(sum, leastLot[lots - 1][behind]));
          }
        }
      }
    }

    /**
     * Where the shortest LOT from there on ends, behind which the other LOTS need no more than most. Its own sum is no more either: some LOT from
     * there on keeps both, and this one is not longer.
     */
    private int lotEnd(int from, int lots, int most) {
      for (int behind = from + 1; behind < gathered; behind++) {
        if (leastLot[lots - 1][behind] <= most) {
          return behind;
        }
      }
      return gathered;
    }

    /** CHAIN of a PERSON; longest is that which ends with a PLEDGE. */
    int longestChain(Shop shop, int person) {
      int most = 0;
      for (int p = 0; p < shop.pledgeCount; p++) {
        if (shop.pledges[p].owner == person) {
          longest[p] = 1 + longestAhead(shop, p, person);
          most = Math.max(most, longest[p]);
        }
      }
      return most;
    }

    private int longestAhead(Shop shop, int pledge, int person) {
      int most = 0;
      for (int p = 0; p < pledge; p++) {
        Pledge ahead = shop.pledges[p];
        if (ahead.owner == person && ahead.state == FETCHED && ahead.fetchedWeek == shop.pledges[pledge].made) {
          most = Math.max(most, longest[p]);
        }
      }
      return most;
    }

    /**
     * MATCHED: how many, or the PLEDGE of the i-th LISTED. Of a KIND what was stolen later may be fewer PLEDGES, the last ones of those that the
     * others may be. So a thing that takes the least leaves the others what they may be as well as it, and as many are MATCHED as can be if each
     * thing is that can be besides those ahead of it.
     */
    int matching(Shop shop, int i) {
      for (int p = 0; p < MOST_PLEDGES; p++) {
        taken[p] = false;
      }
      int matched = 0;
      for (int thing = 0; thing < shop.listedCount; thing++) {
        pledgeOf[thing] = NONE;
        matches[thing] = true;
        matches[thing] = isRoomTo(shop, thing);
        if (matches[thing]) {
          matched++;
          takeLeast(shop, thing);
        }
      }
      return i == NONE ? matched : pledgeOf[i];
    }

    /** Whether there are as many PLEDGES as things that match, up to the last: for none of them those stolen then or later are too many. */
    private boolean isRoomTo(Shop shop, int last) {
      for (int thing = 0; thing <= last; thing++) {
        if (matches[thing] && laterThings(shop, thing, last) > candidates(shop, thing)) {
          return false;
        }
      }
      return true;
    }

    private int laterThings(Shop shop, int thing, int last) {
      int[] first = shop.listed[thing];
      int things = 0;
      for (int t = 0; t <= last; t++) {
        int[] other = shop.listed[t];
        if (matches[t] && other[OF_KIND] == first[OF_KIND] && other[FROM_WEEK] >= first[FROM_WEEK]) {
          things++;
        }
      }
      return things;
    }

    private int candidates(Shop shop, int thing) {
      int pledges = 0;
      for (int p = 0; p < shop.pledgeCount; p++) {
        if (mayBe(shop, thing, p)) {
          pledges++;
        }
      }
      return pledges;
    }

    private static boolean mayBe(Shop shop, int thing, int p) {
      Pledge pledge = shop.pledges[p];
      return pledge.state == HERE && pledge.kind == shop.listed[thing][OF_KIND] && pledge.made >= shop.listed[thing][FROM_WEEK];
    }

    private void takeLeast(Shop shop, int thing) {
      for (int p = 0; p < shop.pledgeCount; p++) {
        if (!taken[p] && mayBe(shop, thing, p)) {
          taken[p] = true;
          pledgeOf[thing] = p;
          return;
        }
      }
    }
  }
}
