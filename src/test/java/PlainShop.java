import java.io.ByteArrayInputStream;
import java.io.ByteArrayOutputStream;
import java.io.ObjectInputStream;
import java.io.ObjectOutputStream;
import java.io.Serializable;
import java.math.BigInteger;
import java.util.ArrayList;
import java.util.List;
import java.util.TreeMap;

/**
 * The document a second time, told as plainly as can be and without regard to speed: lists, whole enumerations, exact fractions. RandomRuns
 * holds BrassBalls against it.
 */
final class PlainShop {
  static final class Line implements Serializable {
    int upto, take, per;
  }

  static final class Rules implements Serializable {
    List<Line> uptos = new ArrayList<>();
    TreeMap<String, Integer> once = new TreeMap<>();

    int told(String name) {
      int without = name.equals("year") ? 52 : name.equals("hold") ? 2 : 0;
      return once.getOrDefault(name, without);
    }

    Line lineOf(int loan) {
      for (Line l : uptos) {
        if (l.upto >= loan) {
          return l;
        }
      }
      return null;
    }

    int interest(int loan, int halves) {
      Line l = lineOf(loan);
      int sum = 0;
      if (l != null) {
        int pers = 0;
        for (int covered = 0; covered < loan; covered += l.per) {
          pers++;
        }
        sum = halves * l.take * pers;
      }
      return sum < told("least") ? told("least") : sum;
    }
  }

  static final class K implements Serializable {
    int size, low, high, glass;
    boolean cloth;
  }

  static final class P implements Serializable {
    int pay, rent, food, purse;
    boolean suited;
    int suitLoan;
  }

  static final class G implements Serializable {
    int number, kind, whose, loan, week, made, state, times, timesPaid, over, leftIn;
    Integer rack;
    List<Integer> heldEnds = new ArrayList<>();
  }

  static final class T implements Serializable {
    int number, pledge, holder, writer;
    boolean dead;
  }

  static final class R implements Serializable {
    int room, steps;
  }

  static final class L implements Serializable {
    int kind, week;
  }

  static final class Entry implements Serializable {
    int week, lent, taken, came, went, sold, back;
  }

  static final class State implements Serializable {
    Rules law = new Rules();
    Rules other = null;
    List<List<String>> looks = new ArrayList<>();
    List<K> kinds = new ArrayList<>();
    List<P> people = new ArrayList<>();
    List<G> pledges = new ArrayList<>();
    List<T> tickets = new ArrayList<>();
    List<R> racks = new ArrayList<>();
    List<L> listed = new ArrayList<>();
    List<Entry> entries = new ArrayList<>();
    int[][] hands = new int[4][5];
    int duty = 0;
    int week = 0;
  }

  State s = new State();
  final byte[][] images = new byte[2][];
  final List<Integer> tape = new ArrayList<>();
  int fault = 0;
  int faultPlace = -1;
  final long[][] rows = new long[4][];
  final int[] sorts = new int[4];

  static boolean in(int v, int low, int high) {
    return v >= low && v <= high;
  }

  // ---- texts

  public int feed(int a, int b, int c, int d, int e) {
    if (tape.size() > 380) {
      return -4;
    }
    for (int v : new int[] {a, b, c, d, e}) {
      tape.add(v >> 24 & 255);
      tape.add(v >> 16 & 255);
      tape.add(v >> 8 & 255);
      tape.add(v & 255);
    }
    return tape.size();
  }

  static final class Tok {
    String text;
    int place;
    char sort;
  }

  static List<Tok> cut(String text) {
    List<Tok> all = new ArrayList<>();
    int at = 0;
    while (at < text.length()) {
      char c = text.charAt(at);
      if (c == ' ' || c == '\n') {
        at++;
        continue;
      }
      Tok t = new Tok();
      t.place = at;
      String rest = text.substring(at);
      String word = rest.replaceAll("(?s)^([a-z]*).*$", "$1");
      String digits = rest.replaceAll("(?s)^([0-9]*).*$", "$1");
      if (!word.isEmpty()) {
        t.text = word;
        t.sort = 'w';
      } else if (!digits.isEmpty()) {
        t.text = digits;
        t.sort = digits.length() > 3 ? '?' : 'n';
      } else {
        t.text = rest.substring(0, 1);
        t.sort = ";()".contains(t.text) ? 's' : '?';
      }
      at += t.text.length();
      all.add(t);
    }
    Tok end = new Tok();
    end.place = text.length();
    end.text = "";
    end.sort = 'e';
    all.add(end);
    return all;
  }

  void found(int kind, Tok t) {
    fault = t.sort == '?' ? 1 : kind;
    faultPlace = t.place;
  }

  public int text(int what, int n) {
    if (what < 0 || what > 1) {
      return -2;
    }
    if (n < 0 || n > tape.size()) {
      return -3;
    }
    StringBuilder text = new StringBuilder();
    for (int i = 0; i < n; i++) {
      text.append((char) (int) tape.get(i));
    }
    tape.clear();
    fault = 0;
    faultPlace = -1;
    List<Tok> toks = cut(text.toString());
    if (what == 0) {
      Rules law = readLaw(toks);
      if (fault != 0) {
        return -10 - fault;
      }
      s.law = law;
      return law.uptos.size() + law.once.size();
    }
    List<List<String>> looks = readLooks(toks);
    if (fault != 0) {
      return -10 - fault;
    }
    s.looks = looks;
    return looks.size();
  }

  static final String[] ONCE = {"least", "0", "99", "ticket", "0", "20", "sworn", "0", "99", "year", "1", "104", "moth", "0", "20", "hold", "1", "52"};

  Rules readLaw(List<Tok> toks) {
    Rules law = new Rules();
    List<String> shape = List.of();
    int at = 0;
    Line line = null;
    String name = "";
    for (Tok t : toks) {
      if (at == shape.size()) {
        if (t.sort == 'e') {
          return law;
        }
        at = 0;
        name = t.sort == 'w' ? t.text : "";
        if (name.equals("upto")) {
          if (law.uptos.size() == 8) {
            found(4, t);
            return law;
          }
          int above = law.uptos.isEmpty() ? 0 : law.uptos.get(law.uptos.size() - 1).upto;
          shape = List.of("" + (above + 1), "999", "take", "0", "99", "per", "1", "999", ";");
          line = new Line();
        } else {
          int i = List.of(ONCE).indexOf(name);
          if (i < 0 || i % 3 != 0 || name.isEmpty()) {
            found(2, t);
            return law;
          }
          if (law.once.containsKey(name)) {
            found(4, t);
            return law;
          }
          shape = List.of(ONCE[i + 1], ONCE[i + 2], ";");
        }
        continue;
      }
      String due = shape.get(at);
      if (Character.isDigit(due.charAt(0))) {
        if (t.sort != 'n') {
          found(2, t);
          return law;
        }
        int v = Integer.parseInt(t.text);
        if (v < Integer.parseInt(due) || v > Integer.parseInt(shape.get(at + 1))) {
          found(3, t);
          return law;
        }
        if (!name.equals("upto")) {
          law.once.put(name, v);
        } else if (at == 0) {
          line.upto = v;
        } else if (at == 3) {
          line.take = v;
        } else {
          line.per = v;
          law.uptos.add(line);
        }
        at += 2;
      } else {
        if (t.sort == 'n' || t.sort == '?' || t.sort == 'e' || !t.text.equals(due)) {
          found(2, t);
          return law;
        }
        at++;
      }
    }
    throw new IllegalStateException("the end was not seen");
  }

  static final String[] FACTS = {"kind", "0", "11", "size", "1", "9", "above", "0", "999", "since", "0", "300", "by", "0", "15"};

  List<List<String>> readLooks(List<Tok> toks) {
    List<List<String>> looks = new ArrayList<>();
    List<String> now = new ArrayList<>();
    StringBuilder open = new StringBuilder();
    String state = "seek";
    int low = 0;
    int high = 0;
    for (Tok t : toks) {
      boolean word = t.sort == 'w';
      switch (state) {
        case "seek":
          if (t.sort == 'e') {
            return looks;
          }
          if (!word || !t.text.equals("seek")) {
            found(2, t);
            return looks;
          }
          if (looks.size() == 8) {
            found(4, t);
            return looks;
          }
          now = new ArrayList<>();
          state = "if";
          continue;
        case "if":
          if (!word || !t.text.equals("if")) {
            found(2, t);
            return looks;
          }
          state = "fact";
          continue;
        case "fact":
          if (word && t.text.equals("not") || t.sort == 's' && t.text.equals("(")) {
            if (open.length() == 8) {
              found(5, t);
              return looks;
            }
            open.append(t.text.equals("(") ? '(' : 'n');
            now.add(t.text);
            continue;
          }
          if (word && t.text.equals("cloth")) {
            now.add("cloth");
            state = "behind";
          } else {
            int i = word ? List.of(FACTS).indexOf(t.text) : -1;
            if (i < 0 || i % 3 != 0) {
              found(2, t);
              return looks;
            }
            now.add(t.text);
            low = Integer.parseInt(FACTS[i + 1]);
            high = Integer.parseInt(FACTS[i + 2]);
            state = "number";
          }
          break;
        case "number":
          if (t.sort != 'n') {
            found(2, t);
            return looks;
          }
          if (!in(Integer.parseInt(t.text), low, high)) {
            found(3, t);
            return looks;
          }
          now.add(t.text);
          state = "behind";
          break;
        default:
          if (word && (t.text.equals("or") || t.text.equals("and"))) {
            now.add(t.text);
            state = "fact";
            continue;
          }
          if (t.sort == 's' && t.text.equals(")") && open.length() > 0) {
            open.setLength(open.length() - 1);
            now.add(")");
          } else if (t.sort == 's' && t.text.equals(";") && open.length() == 0) {
            looks.add(now);
            state = "seek";
            continue;
          } else {
            found(2, t);
            return looks;
          }
      }
      if (state.equals("behind")) {
        while (open.length() > 0 && open.charAt(open.length() - 1) == 'n') {
          open.setLength(open.length() - 1);
        }
      }
    }
    throw new IllegalStateException("the end was not seen");
  }

  public int fault(int what) {
    return what == 0 ? fault : what == 1 ? faultPlace : -1;
  }

  @SuppressWarnings("unchecked")
  static <X> X copy(X x) {
    return (X) thaw(freeze(x));
  }

  static byte[] freeze(Object x) {
    try {
      ByteArrayOutputStream out = new ByteArrayOutputStream();
      new ObjectOutputStream(out).writeObject(x);
      return out.toByteArray();
    } catch (Exception e) {
      throw new IllegalStateException(e);
    }
  }

  static Object thaw(byte[] b) {
    try {
      return new ObjectInputStream(new ByteArrayInputStream(b)).readObject();
    } catch (Exception e) {
      throw new IllegalStateException(e);
    }
  }

  public int other() {
    s.other = copy(s.law);
    return 0;
  }

  static int halves(int from, int to) {
    return 1 + Math.floorDiv(Math.abs(to - from), 2);
  }

  public int interest(int shop, int loan, int from, int to) {
    if (!in(shop, 0, 1)) {
      return -2;
    }
    if (!in(loan, 1, 999) || !in(from, 0, 300) || !in(to, 0, 300) || from > to) {
      return -3;
    }
    Rules law = shop == 0 ? s.law : s.other;
    if (law == null || law.lineOf(loan) == null) {
      return -5;
    }
    return law.interest(loan, halves(from, to));
  }

  // ---- kinds, people, weeks

  public int kind(int size, int low, int high, int glass, boolean cloth) {
    if (!in(size, 1, 9) || !in(low, 1, 999) || !in(high, 1, 999) || low > high || !in(glass, 0, 99)) {
      return -3;
    }
    if (s.kinds.size() == 12) {
      return -4;
    }
    K k = new K();
    k.size = size;
    k.low = low;
    k.high = high;
    k.glass = glass;
    k.cloth = cloth;
    s.kinds.add(k);
    return s.kinds.size() - 1;
  }

  public int person(int pay, int rent, int food, int purse) {
    if (!in(pay, 0, 999) || !in(rent, 0, 999) || !in(food, 0, 999) || !in(purse, 0, 9999)) {
      return -3;
    }
    if (s.people.size() == 16) {
      return -4;
    }
    P p = new P();
    p.pay = pay;
    p.rent = rent;
    p.food = food;
    p.purse = 2 * purse;
    s.people.add(p);
    return s.people.size() - 1;
  }

  boolean isPerson(int p) {
    return in(p, 0, s.people.size() - 1);
  }

  boolean isKind(int k) {
    return in(k, 0, s.kinds.size() - 1);
  }

  boolean isPledge(int p) {
    return in(p, 0, s.pledges.size() - 1);
  }

  public int purse(int person) {
    return isPerson(person) ? s.people.get(person).purse : -1000000;
  }

  public int weeks(int n) {
    if (!in(n, 1, 52)) {
      return -3;
    }
    if (s.week + n > 300) {
      return -5;
    }
    return s.week += n;
  }

  // ---- pledges, tickets

  Entry entry() {
    Entry e = new Entry();
    e.week = s.week;
    s.entries.add(e);
    return e;
  }

  int newTicket(int pledge, int holder) {
    T t = new T();
    int serial = s.tickets.size() + 1;
    t.number = 100 * serial + (31 * serial + 17) % 97;
    t.pledge = pledge;
    t.holder = holder;
    t.writer = s.duty;
    s.tickets.add(t);
    return t.number;
  }

  public int pledge(int kind, int person, int loan) {
    if (!isKind(kind) || !isPerson(person)) {
      return -2;
    }
    if (!in(loan, 1, 999)) {
      return -3;
    }
    if (s.pledges.size() == 60 || s.tickets.size() == 150) {
      return -4;
    }
    if (s.law.lineOf(loan) == null) {
      return -5;
    }
    G g = new G();
    g.number = s.pledges.size();
    g.kind = kind;
    g.whose = person;
    g.loan = loan;
    g.week = s.week;
    g.made = s.week;
    s.pledges.add(g);
    s.people.get(person).purse += 2 * loan - s.law.told("ticket");
    Entry e = entry();
    e.lent = 2 * loan;
    e.came = 1;
    return newTicket(g.number, person);
  }

  public int ticket(int number) {
    if (number < 100) {
      return 2;
    }
    long serial = number / 100;
    if ((31 * serial + 17) % 97 != number % 100) {
      return 2;
    }
    for (T t : s.tickets) {
      if (t.number == number) {
        return t.dead ? 1 : 0;
      }
    }
    return 3;
  }

  T alive(int number) {
    for (T t : s.tickets) {
      if (t.number == number && !t.dead) {
        return t;
      }
    }
    return null;
  }

  int interestNow(G g) {
    return s.law.interest(g.loan, halves(g.week, s.week));
  }

  int due(G g) {
    return 2 * g.loan + interestNow(g);
  }

  boolean heldNow(G g) {
    return g.heldEnds.stream().anyMatch(end -> s.week < end);
  }

  public int held(int number, int what) {
    T t = alive(number);
    if (t == null || !in(what, 0, 2)) {
      return -2;
    }
    return what == 0 ? t.pledge : what == 1 ? t.holder : due(s.pledges.get(t.pledge));
  }

  void kill(int pledge) {
    s.tickets.stream().filter(t -> t.pledge == pledge).forEach(t -> t.dead = true);
  }

  public int fetch(int number) {
    T t = alive(number);
    if (t == null) {
      return -2;
    }
    G g = s.pledges.get(t.pledge);
    if (heldNow(g)) {
      return -5;
    }
    int due = due(g);
    P p = s.people.get(t.holder);
    if (p.purse < due) {
      return -8;
    }
    p.purse -= due;
    Entry e = entry();
    e.taken = due - 2 * g.loan;
    e.back = due;
    e.went = 1;
    g.state = 1;
    g.rack = null;
    g.leftIn = s.week;
    kill(g.number);
    return due;
  }

  public int renew(int number) {
    T t = alive(number);
    if (t == null) {
      return -2;
    }
    if (s.tickets.size() == 150) {
      return -4;
    }
    G g = s.pledges.get(t.pledge);
    int interest = interestNow(g);
    P p = s.people.get(t.holder);
    if (p.purse < interest + s.law.told("ticket")) {
      return -8;
    }
    p.purse -= interest + s.law.told("ticket");
    Entry e = entry();
    e.taken = interest;
    e.back = interest;
    g.week = s.week;
    g.times++;
    g.timesPaid += interest;
    t.dead = true;
    return newTicket(g.number, t.holder);
  }

  public int swear(int pledge) {
    if (!isPledge(pledge)) {
      return -2;
    }
    if (s.tickets.size() == 150) {
      return -4;
    }
    G g = s.pledges.get(pledge);
    if (g.state != 0) {
      return -5;
    }
    P p = s.people.get(g.whose);
    if (p.purse < s.law.told("sworn")) {
      return -8;
    }
    p.purse -= s.law.told("sworn");
    kill(pledge);
    return newTicket(pledge, g.whose);
  }

  public int sell(int number, int person, int price) {
    T t = alive(number);
    if (t == null || !isPerson(person)) {
      return -2;
    }
    if (!in(price, 0, 999) || t.holder == person) {
      return -3;
    }
    if (s.people.get(person).purse < 2 * price) {
      return -8;
    }
    s.people.get(person).purse -= 2 * price;
    s.people.get(t.holder).purse += 2 * price;
    t.holder = person;
    return 0;
  }

  int mothed(G g, int of) {
    if (!s.kinds.get(g.kind).cloth) {
      return of;
    }
    int hundredths = 100;
    for (int w = g.week + 10; w <= s.week; w += 10) {
      hundredths -= s.law.told("moth");
    }
    return hundredths <= 0 ? 0 : of * hundredths / 100;
  }

  int mothedLow(G g) {
    return mothed(g, s.kinds.get(g.kind).low);
  }

  int mothedHigh(G g) {
    return mothed(g, s.kinds.get(g.kind).high);
  }

  public int of(int pledge, int what) {
    if (!isPledge(pledge) || !in(what, 0, 8)) {
      return -1000;
    }
    G g = s.pledges.get(pledge);
    int[] told = {g.kind, g.whose, g.loan, g.week, g.rack == null ? -1 : g.rack, g.state, heldNow(g) ? 1 : 0, mothedLow(g), mothedHigh(g)};
    return told[what];
  }

  List<G> passedOnes() {
    List<G> all = new ArrayList<>();
    for (G g : s.pledges) {
      if (g.state == 0 && g.week + s.law.told("year") <= s.week) {
        all.add(g);
      }
    }
    return all;
  }

  static int countOrIth(List<G> all, int i) {
    return i == -1 ? all.size() : in(i, 0, all.size() - 1) ? all.get(i).number : -1;
  }

  public int passed(int i) {
    return countOrIth(passedOnes(), i);
  }

  public int sale(int pledge, int price) {
    if (!isPledge(pledge) || !in(price, 0, 9999)) {
      return -1000000;
    }
    G g = s.pledges.get(pledge);
    if (!passedOnes().contains(g) || heldNow(g)) {
      return -1000000;
    }
    int due = due(g);
    Entry e = entry();
    e.sold = 1;
    for (int halfPence = 1; halfPence <= 2 * price && halfPence <= due; halfPence++) {
      e.back++;
      if (halfPence > 2 * g.loan) {
        e.taken++;
      }
    }
    g.over = 2 * price > due ? 2 * price - due : 0;
    g.state = 2;
    g.rack = null;
    g.leftIn = s.week;
    kill(pledge);
    return 2 * price - due;
  }

  public int over(int pledge) {
    if (!isPledge(pledge)) {
      return -2;
    }
    G g = s.pledges.get(pledge);
    if (g.state != 2 || s.week >= g.leftIn + 52) {
      return -5;
    }
    int sum = g.over;
    s.people.get(g.whose).purse += sum;
    g.over = 0;
    return sum;
  }

  // ---- what to lend, racks

  /** GAINED as a fraction: what stands above, and below. */
  BigInteger[] gain(K k, int loan, int back, int halves) {
    long interest = s.law.interest(loan, halves);
    BigInteger sum = BigInteger.ZERO;
    for (int price = k.low; price <= k.high; price++) {
      sum = sum.add(BigInteger.valueOf(Math.min(2L * price, 2L * loan + interest)));
    }
    BigInteger count = BigInteger.valueOf(k.high - k.low + 1).multiply(BigInteger.valueOf(100));
    BigInteger worth = sum.multiply(BigInteger.valueOf(100 - k.glass)).subtract(count.multiply(BigInteger.valueOf(2L * loan)));
    BigInteger above = count.multiply(BigInteger.valueOf(back * interest)).add(worth.multiply(BigInteger.valueOf(100 - back)));
    return new BigInteger[] {above, count};
  }

  public int lend(int kind, int back, int halves) {
    if (!isKind(kind)) {
      return -2;
    }
    if (!in(back, 0, 100) || !in(halves, 1, 52)) {
      return -3;
    }
    int best = 0;
    for (int loan = 999; loan >= 1 && best == 0; loan--) {
      if (s.law.lineOf(loan) != null && gain(s.kinds.get(kind), loan, back, halves)[0].signum() >= 0) {
        best = loan;
      }
    }
    return best;
  }

  public long gained(int kind, int loan, int back, int halves) {
    if (!isKind(kind)) {
      return -2;
    }
    if (!in(loan, 1, 999) || !in(back, 0, 100) || !in(halves, 1, 52)) {
      return -3;
    }
    if (s.law.lineOf(loan) == null) {
      return -5;
    }
    BigInteger[] g = gain(s.kinds.get(kind), loan, back, halves);
    return g[0].multiply(BigInteger.valueOf(1000)).divide(g[1]).longValueExact();
  }

  public int rack(int room, int steps) {
    if (!in(room, 1, 99) || !in(steps, 0, 99)) {
      return -3;
    }
    if (s.racks.size() == 10) {
      return -4;
    }
    R r = new R();
    r.room = room;
    r.steps = steps;
    s.racks.add(r);
    return s.racks.size() - 1;
  }

  int sizeOf(G g) {
    return s.kinds.get(g.kind).size;
  }

  int left(int rack) {
    int on = s.pledges.stream().filter(g -> g.rack != null && g.rack == rack).mapToInt(this::sizeOf).sum();
    return s.racks.get(rack).room - on;
  }

  public int put(int pledge, int rack) {
    if (!isPledge(pledge) || !in(rack, 0, s.racks.size() - 1)) {
      return -2;
    }
    G g = s.pledges.get(pledge);
    if (g.state != 0 || g.rack != null && g.rack == rack || left(rack) < sizeOf(g)) {
      return -5;
    }
    g.rack = rack;
    return left(rack);
  }

  List<G> told(int from, int bits) {
    List<G> all = new ArrayList<>();
    for (int j = 0; j < 8; j++) {
      if ((bits & 1 << j) != 0) {
        long p = (long) from + j;
        if (p < 0 || p >= s.pledges.size() || s.pledges.get((int) p).rack == null) {
          return null;
        }
        all.add(s.pledges.get((int) p));
      }
    }
    return all;
  }

  int stepsTo(G g) {
    return s.racks.get(g.rack).steps;
  }

  public int rush(int from, int bits) {
    if (!in(bits, 0, 255)) {
      return -3;
    }
    List<G> all = told(from, bits);
    return all == null ? -5 : all.stream().mapToInt(g -> stepsTo(g) + stepsTo(g)).sum();
  }

  private int bestSum;
  private int[] bestRacks;

  void tryRacks(List<G> all, long[] weights, int[] racks, int j, int sum, int[] room) {
    if (bestRacks != null && sum >= bestSum) {
      return;
    }
    if (j == all.size()) {
      bestSum = sum;
      bestRacks = racks.clone();
      return;
    }
    for (int r = 0; r < room.length; r++) {
      int size = sizeOf(all.get(j));
      if (room[r] >= size) {
        room[r] -= size;
        racks[j] = r;
        tryRacks(all, weights, racks, j + 1, sum + (int) weights[j] * s.racks.get(r).steps, room);
        room[r] += size;
      }
    }
  }

  public int best(int row, int n, int i) {
    if (!in(row, 0, 3)) {
      return -2;
    }
    if (!in(n, 1, 7)) {
      return -3;
    }
    List<G> all = new ArrayList<>();
    for (G g : s.pledges) {
      if (g.state == 0 && g.rack == null && all.size() < n) {
        all.add(g);
      }
    }
    if (all.size() < n) {
      return -5;
    }
    if (rows[row] == null) {
      return -6;
    }
    if (rows[row].length < n) {
      return -7;
    }
    for (int j = 0; j < n; j++) {
      if (rows[row][j] < 0 || rows[row][j] > 99) {
        return -3;
      }
    }
    bestRacks = null;
    int[] room = new int[s.racks.size()];
    for (int r = 0; r < room.length; r++) {
      room[r] = left(r);
    }
    tryRacks(all, rows[row], new int[n], 0, 0, room);
    if (bestRacks == null) {
      return -1;
    }
    return i == -1 ? bestSum : in(i, 0, n - 1) ? bestRacks[i] : -1;
  }

  // ---- lives, lots

  int refusal(int person, int kind, int loan, int weeks, int more) {
    if (!isPerson(person) || !isKind(kind)) {
      return -2;
    }
    if (!in(loan, 1, 999) || !in(weeks, 1, 104) || !in(more, 0, 999)) {
      return -3;
    }
    return s.law.lineOf(loan) == null ? -5 : 0;
  }

  int lived(P p, int loan, int weeks, int more) {
    int purse = p.purse + more + more;
    boolean out = true;
    int there = 0;
    for (int w = 0; w < weeks; w++) {
      if (!out) {
        there++;
        int cost = loan + loan + s.law.interest(loan, halves(0, Math.max(1, there)));
        if (purse >= cost) {
          purse -= cost;
          out = true;
        }
      }
      purse += p.pay * 2;
      purse -= p.rent * 2;
      purse -= p.food * 2;
      if (out && purse < 0) {
        out = false;
        there = 0;
        purse += loan * 2 - s.law.told("ticket");
      }
      if (purse < 0) {
        return w;
      }
    }
    return -1;
  }

  public int life(int person, int kind, int loan, int weeks, int more) {
    int refused = refusal(person, kind, loan, weeks, more);
    return refused != 0 ? refused : lived(s.people.get(person), loan, weeks, more);
  }

  public int needs(int person, int kind, int loan, int weeks) {
    int refused = refusal(person, kind, loan, weeks, 0);
    if (refused != 0) {
      return refused;
    }
    int more = 0;
    while (more < 1000 && lived(s.people.get(person), loan, weeks, more) != -1) {
      more++;
    }
    return more < 1000 ? more : -1;
  }

  private int lotSum;
  private List<Integer> lotLengths;

  /** Lengths are tried from the shortest on, so the first of like ones is found first. */
  void tryLots(List<G> all, int from, int n, int most, List<Integer> lengths) {
    if (n == 0) {
      if (from == all.size() && (lotLengths == null || most < lotSum)) {
        lotSum = most;
        lotLengths = new ArrayList<>(lengths);
      }
      return;
    }
    int sum = 0;
    for (int to = from; to < all.size(); to++) {
      sum += mothedLow(all.get(to));
      lengths.add(to - from + 1);
      tryLots(all, to + 1, n - 1, Math.max(most, sum), lengths);
      lengths.remove(lengths.size() - 1);
    }
  }

  public int lots(int n, int i) {
    if (!in(n, 1, 10)) {
      return -3;
    }
    List<G> all = passedOnes();
    while (all.size() > 10) {
      all.remove(10);
    }
    if (all.size() < n) {
      return -5;
    }
    lotLengths = null;
    tryLots(all, 0, n, 0, new ArrayList<>());
    return i == -1 ? lotSum : in(i, 0, n - 1) ? lotLengths.get(i) : -1;
  }

  // ---- looks, the other shop

  static List<List<String>> split(List<String> toks, String by) {
    List<List<String>> parts = new ArrayList<>();
    List<String> now = new ArrayList<>();
    int open = 0;
    for (String t : toks) {
      open += t.equals("(") ? 1 : t.equals(")") ? -1 : 0;
      if (open == 0 && t.equals(by)) {
        parts.add(now);
        now = new ArrayList<>();
      } else {
        now.add(t);
      }
    }
    parts.add(now);
    return parts;
  }

  boolean holds(List<String> test, G g) {
    return split(test, "or").stream().anyMatch(part -> split(part, "and").stream().allMatch(fact -> isSo(fact, g)));
  }

  boolean isSo(List<String> fact, G g) {
    String first = fact.get(0);
    if (first.equals("not")) {
      return !isSo(fact.subList(1, fact.size()), g);
    }
    if (first.equals("(")) {
      return holds(fact.subList(1, fact.size() - 1), g);
    }
    if (first.equals("cloth")) {
      return s.kinds.get(g.kind).cloth;
    }
    int n = Integer.parseInt(fact.get(1));
    return first.equals("kind") && g.kind == n || first.equals("size") && sizeOf(g) == n || first.equals("above") && g.loan > n
        || first.equals("since") && g.week >= n || first.equals("by") && g.whose == n;
  }

  List<G> fitting(int look) {
    List<G> all = new ArrayList<>(s.pledges);
    all.removeIf(g -> g.state != 0 || !holds(s.looks.get(look), g));
    return all;
  }

  public int fits(int look, int i) {
    return in(look, 0, s.looks.size() - 1) ? countOrIth(fitting(look), i) : -2;
  }

  public int hold(int look) {
    if (!in(look, 0, s.looks.size() - 1)) {
      return -2;
    }
    fitting(look).forEach(g -> g.heldEnds.add(s.week + s.law.told("hold")));
    return fitting(look).size();
  }

  public int runs(int person, int what) {
    if (!isPerson(person) || !in(what, 0, 1)) {
      return -2;
    }
    if (s.other == null) {
      return -5;
    }
    int[] sums = new int[2];
    for (G g : s.pledges) {
      if (g.state == 0 && g.whose == person && s.other.lineOf(g.loan) != null) {
        int there = s.other.interest(g.loan, halves(g.week, s.week));
        if (there < interestNow(g)) {
          sums[0]++;
          sums[1] += interestNow(g) - there;
        }
      }
    }
    return sums[what];
  }

  public int chain(int person) {
    if (!isPerson(person)) {
      return -2;
    }
    int most = 0;
    int[] from = new int[s.pledges.size()];
    for (int a = from.length - 1; a >= 0; a--) {
      G ahead = s.pledges.get(a);
      if (ahead.whose != person) {
        continue;
      }
      from[a] = 1;
      for (int b = a + 1; b < from.length; b++) {
        if (ahead.state == 1 && s.pledges.get(b).whose == person && s.pledges.get(b).made == ahead.leftIn) {
          from[a] = Math.max(from[a], 1 + from[b]);
        }
      }
      most = Math.max(most, from[a]);
    }
    return most;
  }

  public int book(int week, int what) {
    if (!in(week, 0, s.week) || !in(what, 0, 4)) {
      return -2;
    }
    int[] sums = new int[5];
    for (Entry e : s.entries) {
      if (e.week == week) {
        int[] one = {e.lent, e.taken, e.came, e.went, e.sold};
        for (int j = 0; j < 5; j++) {
          sums[j] += one[j];
        }
      }
    }
    return sums[what];
  }

  public int worst(int n, int what) {
    if (!in(what, 0, 1)) {
      return -2;
    }
    if (!in(n, 1, 52) || n > s.week + 1) {
      return -3;
    }
    int[] net = new int[s.week + 1];
    s.entries.forEach(e -> net[e.week] += e.lent - e.back);
    int week = -1;
    int most = 0;
    for (int from = 0; from + n <= net.length; from++) {
      int sum = 0;
      for (int w = from; w < from + n; w++) {
        sum += net[w];
      }
      if (week < 0 || sum > most) {
        week = from;
        most = sum;
      }
    }
    return what == 0 ? week : most;
  }

  // ---- scribes, suits, trips, lists

  static boolean strokes(int... all) {
    for (int v : all) {
      if (v < 0 || v > 9) {
        return false;
      }
    }
    return true;
  }

  public int scribe(int k, int a, int b, int c, int d, int e) {
    if (!in(k, 0, 3)) {
      return -2;
    }
    if (!strokes(a, b, c, d, e)) {
      return -3;
    }
    s.hands[k] = new int[] {a, b, c, d, e};
    return 0;
  }

  public int duty(int k) {
    if (!in(k, 0, 3)) {
      return -2;
    }
    int was = s.duty;
    s.duty = k;
    return was;
  }

  public int hand(int number, int a, int b, int c, int d, int e) {
    T of = null;
    for (T t : s.tickets) {
      if (t.number == number) {
        of = t;
      }
    }
    if (of == null) {
      return -2;
    }
    if (!strokes(a, b, c, d, e)) {
      return -3;
    }
    int[] seen = {a, b, c, d, e};
    int[] far = new int[4];
    int least = 99;
    for (int k = 0; k < 4; k++) {
      for (int j = 0; j < 5; j++) {
        far[k] += Math.abs(seen[j] - s.hands[k][j]);
      }
      least = Math.min(least, far[k]);
    }
    if (far[of.writer] == least && least <= 6) {
      return 0;
    }
    return least <= 6 ? 1 : 2;
  }

  public int suit(int person, int kind, int loan) {
    if (!isPerson(person) || !isKind(kind)) {
      return -2;
    }
    if (!in(loan, 1, 999)) {
      return -3;
    }
    s.people.get(person).suited = true;
    s.people.get(person).suitLoan = loan;
    return 0;
  }

  public int street(int weeks, int more) {
    if (!in(weeks, 1, 104) || !in(more, 0, 999)) {
      return -3;
    }
    int bits = 0;
    for (int p = 0; p < s.people.size(); p++) {
      P who = s.people.get(p);
      if (who.suited && s.law.lineOf(who.suitLoan) != null && lived(who, who.suitLoan, weeks, more) >= 0) {
        bits += 1 << p;
      }
    }
    return bits;
  }

  public int shilling(int weeks) {
    if (!in(weeks, 1, 104)) {
      return -3;
    }
    int bits = 0;
    for (int p = 0; p < 16; p++) {
      if ((street(weeks, 0) >> p) % 2 == 1 && (street(weeks, 12) >> p) % 2 == 0) {
        bits += 1 << p;
      }
    }
    return bits;
  }

  /** The next PLEDGE goes with one of the TRIPS so far, or on one of its own. */
  int tryTrips(List<G> all, int j, List<int[]> trips, int arms) {
    if (j == all.size()) {
      return trips.stream().mapToInt(t -> 2 * t[1]).sum();
    }
    G g = all.get(j);
    int least = Integer.MAX_VALUE;
    for (int t = 0; t <= trips.size(); t++) {
      List<int[]> then = new ArrayList<>();
      trips.forEach(trip -> then.add(trip.clone()));
      if (t == trips.size()) {
        then.add(new int[2]);
      }
      then.get(t)[0] += sizeOf(g);
      then.get(t)[1] = Math.max(then.get(t)[1], stepsTo(g));
      if (then.get(t)[0] <= arms) {
        least = Math.min(least, tryTrips(all, j + 1, then, arms));
      }
    }
    return least;
  }

  public int trips(int from, int bits, int arms) {
    if (!in(bits, 0, 255) || !in(arms, 1, 99)) {
      return -3;
    }
    List<G> all = told(from, bits);
    if (all == null) {
      return -5;
    }
    if (all.stream().anyMatch(g -> sizeOf(g) > arms)) {
      return -1;
    }
    return tryTrips(all, 0, new ArrayList<>(), arms);
  }

  public int renewals(int pledge, int what) {
    if (!isPledge(pledge) || !in(what, 0, 1)) {
      return -2;
    }
    return what == 0 ? s.pledges.get(pledge).times : s.pledges.get(pledge).timesPaid;
  }

  public int foresee(boolean high) {
    int over = 0;
    int shortOf = 0;
    for (G g : passedOnes()) {
      int price = 2 * (high ? mothedHigh(g) : mothedLow(g));
      over += Math.max(price - due(g), 0);
      shortOf += Math.max(due(g) - price, 0);
    }
    return over - shortOf;
  }

  public int list(int kind, int week) {
    if (!isKind(kind)) {
      return -2;
    }
    if (!in(week, 0, 300)) {
      return -3;
    }
    if (s.listed.size() == 12) {
      return -4;
    }
    L l = new L();
    l.kind = kind;
    l.week = week;
    s.listed.add(l);
    return s.listed.size() - 1;
  }

  boolean mayBe(L l, G g) {
    return g.state == 0 && g.kind == l.kind && g.made >= l.week;
  }

  /** The latest stolen choose first: what they may be, the others may be too. */
  int most(List<L> things, List<G> free) {
    List<L> order = new ArrayList<>(things);
    order.sort((a, b) -> b.week - a.week);
    List<G> left = new ArrayList<>(free);
    int count = 0;
    for (L l : order) {
      for (G g : left) {
        if (mayBe(l, g)) {
          left.remove(g);
          count++;
          break;
        }
      }
    }
    return count;
  }

  public int match(int i) {
    List<G> free = new ArrayList<>(s.pledges);
    int all = most(s.listed, free);
    if (i == -1) {
      return all;
    }
    if (!in(i, 0, s.listed.size() - 1)) {
      return -1;
    }
    int sure = 0;
    for (int t = 0; t < s.listed.size(); t++) {
      List<L> rest = s.listed.subList(t + 1, s.listed.size());
      G taken = null;
      for (G g : free) {
        List<G> without = new ArrayList<>(free);
        without.remove(g);
        if (mayBe(s.listed.get(t), g) && sure + 1 + most(rest, without) == all) {
          taken = g;
          break;
        }
      }
      if (taken != null) {
        free.remove(taken);
        sure++;
      }
      if (t == i) {
        return taken == null ? -1 : taken.number;
      }
    }
    throw new IllegalStateException("no thing " + i);
  }

  // ---- rows, images

  public int row(int row, int sort, int n) {
    if (!in(row, 0, 3) || !in(sort, 0, 3)) {
      return -2;
    }
    if (!in(n, 0, 40)) {
      return -3;
    }
    rows[row] = new long[n];
    sorts[row] = sort;
    return 0;
  }

  public long write(int row, int i, long v) {
    if (!in(row, 0, 3)) {
      return -2;
    }
    if (rows[row] == null) {
      return -6;
    }
    if (!in(i, 0, rows[row].length - 1)) {
      return -7;
    }
    int bits = new int[] {8, 16, 32, 64}[sorts[row]];
    rows[row][i] = v << 64 - bits >> 64 - bits;
    return rows[row][i];
  }

  public int clerk(int row) {
    if (!in(row, 0, 3)) {
      return -2;
    }
    if (rows[row] == null) {
      return -6;
    }
    int came = 0;
    while (3 * came + 3 <= rows[row].length) {
      int[] three = new int[3];
      for (int j = 0; j < 3; j++) {
        long v = rows[row][3 * came + j];
        three[j] = v == (int) v ? (int) v : -7;
      }
      if (pledge(three[0], three[1], three[2]) < 0) {
        break;
      }
      came++;
    }
    return came;
  }

  public int image(int i) {
    if (!in(i, 0, 1)) {
      return -2;
    }
    images[i] = freeze(s);
    return 0;
  }

  public int restore(int i) {
    if (!in(i, 0, 1)) {
      return -2;
    }
    if (images[i] == null) {
      return -5;
    }
    s = (State) thaw(images[i]);
    return 0;
  }

  public int count(int what) {
    int here = (int) s.pledges.stream().filter(g -> g.state == 0).count();
    int[] told = {s.kinds.size(), s.people.size(), s.pledges.size(), s.tickets.size(), s.racks.size(), s.law.uptos.size() + s.law.once.size(),
        s.looks.size(), tape.size(), s.week, here, s.listed.size(), s.duty};
    if (in(what, 0, 11)) {
      return told[what];
    }
    return what >= 20 && what - 20 < s.racks.size() ? left(what - 20) : -1;
  }
}
