import java.lang.reflect.Method;
import java.util.ArrayList;
import java.util.HashMap;
import java.util.List;
import java.util.Map;
import java.util.TreeMap;

/**
 * Runs of calls drawn from fixed seeds, on BrassBalls and on PlainShop: each answer must be the same. Also counts that every call was answered
 * in every way that it can be (a code of its own, or not refused), so that no branch goes untried.
 */
public final class RandomRuns {
  private static final int CALLS = 512;
  private static final Map<String, Method> FACE = new TreeMap<>();
  private static final Map<String, Method> PLAIN = new HashMap<>();
  private static final Map<String, TreeMap<Long, Integer>> ANSWERS = new TreeMap<>();

  private final long seedAtFirst;
  private long seed;
  private final BrassBalls b = new BrassBalls();
  private final PlainShop p = new PlainShop();
  private final List<String> told = new ArrayList<>();
  private int calls = 0;
  private boolean wrong = false;

  private RandomRuns(long seed) {
    this.seedAtFirst = seed;
    this.seed = seed * 0x9E3779B97F4A7C15L + 77;
  }

  private int below(int n) {
    seed = seed * 6364136223846793005L + 1442695040888963407L;
    return (int) ((seed >>> 33) % n);
  }

  private int from(int low, int high) {
    return low + below(high - low + 1);
  }

  private boolean oneIn(int n) {
    return below(n) == 0;
  }

  private static final int[] FAR_OUT = {Integer.MIN_VALUE, Integer.MIN_VALUE + 7, -1000, -2, -1, 0, 1, 1000, 10000, Integer.MAX_VALUE - 3, Integer.MAX_VALUE};

  /** Mostly what can be, at its edges often, sometimes beyond them. */
  private int near(int low, int high) {
    int how = below(40);
    if (how == 0) {
      return FAR_OUT[below(FAR_OUT.length)];
    }
    if (how == 1) {
      return low - 1;
    }
    if (how == 2) {
      return high + 1;
    }
    if (how == 3) {
      return low;
    }
    if (how == 4) {
      return high;
    }
    return low > high ? low : from(low, high);
  }

  private long call(String name, Object... args) {
    if (wrong || calls >= CALLS) {
      return 0;
    }
    calls++;
    StringBuilder line = new StringBuilder(name).append(List.of(args));
    long got;
    long due;
    try {
      due = ((Number) PLAIN.get(name).invoke(p, args)).longValue();
    } catch (ReflectiveOperationException e) {
      throw new IllegalStateException("the plain shop fails at " + line, e.getCause() == null ? e : e.getCause());
    }
    try {
      got = ((Number) FACE.get(name).invoke(b, args)).longValue();
    } catch (ReflectiveOperationException e) {
      told.add(line + " throws " + e.getCause());
      wrong = true;
      return 0;
    }
    told.add(line + " = " + got);
    ANSWERS.computeIfAbsent(name, n -> new TreeMap<>()).merge(due < 0 ? due : 1, 1, Integer::sum);
    if (got != due) {
      wrong = true;
      told.add("  due is " + due);
    }
    return due;
  }

  private int aKind() {
    return near(0, p.s.kinds.size() - 1);
  }

  private int aPerson() {
    return near(0, p.s.people.size() - 1);
  }

  private int aPledge() {
    return near(0, p.s.pledges.size() - 1);
  }

  private int aNumber() {
    int n = p.s.tickets.size();
    if (n == 0 || oneIn(12)) {
      int serial = from(0, n + 2);
      return oneIn(3) ? near(0, 20000) : 100 * serial + (31 * serial + 17) % 97 + (oneIn(3) ? from(-1, 1) : 0);
    }
    for (int tries = 0; tries < 20; tries++) {
      PlainShop.T t = p.s.tickets.get(below(n));
      if (!t.dead) {
        return t.number;
      }
    }
    return p.s.tickets.get(below(n)).number;
  }

  private int anIndex(int n) {
    return oneIn(2) ? -1 : near(0, Math.max(0, n - 1));
  }

  private int aLoan() {
    return oneIn(4) ? near(1, 999) : from(1, 60);
  }

  private int stroke() {
    return oneIn(60) ? near(0, 9) : from(0, oneIn(3) ? 9 : 3);
  }

  // ---- texts

  private String number(int low, int high) {
    int v = oneIn(40) ? near(low, high) : oneIn(6) ? (oneIn(2) ? low : high) : from(low, high);
    String digits = "" + Math.floorMod(v, 100000);
    return oneIn(15) ? "0" + digits : digits;
  }

  private String blank() {
    return oneIn(8) ? " \n" : oneIn(20) ? "\n" : " ";
  }

  private String lawText() {
    StringBuilder text = new StringBuilder();
    int lines = oneIn(25) ? 0 : from(1, 9);
    int upto = 0;
    List<String> rest = new ArrayList<>(List.of("least", "ticket", "sworn", "year", "moth", "hold"));
    boolean tall = oneIn(6);
    for (int i = 0; i < lines; i++) {
      if (rest.isEmpty() || tall || oneIn(2)) {
        upto = Math.min(999, upto + from(oneIn(20) ? 0 : 1, tall ? 9 : 200));
        int take = oneIn(3) ? 99 : 9;
        text.append("upto").append(blank()).append(upto).append(blank()).append("take ").append(number(0, take)).append(" per").append(blank());
        text.append(number(1, oneIn(2) ? 20 : 999));
      } else {
        String name = oneIn(20) ? "year" : rest.remove(below(rest.size()));
        int[] bounds = name.equals("least") || name.equals("sworn") ? new int[] {0, 99} : name.equals("ticket") || name.equals("moth") ? new int[] {0, 20}
            : name.equals("year") ? new int[] {1, oneIn(3) ? 104 : 8} : new int[] {1, oneIn(3) ? 52 : 6};
        text.append(name).append(blank()).append(number(bounds[0], bounds[1]));
      }
      text.append(oneIn(4) ? blank() : "").append(";").append(oneIn(4) ? blank() : "");
    }
    return text.toString();
  }

  private String fact(int depth) {
    int how = below(depth > 0 ? 9 : 6);
    switch (how) {
      case 0:
        return "cloth";
      case 1:
        return "kind " + number(0, oneIn(4) ? 11 : 3);
      case 2:
        return "size " + number(1, oneIn(4) ? 9 : 4);
      case 3:
        return "above " + number(0, oneIn(4) ? 999 : 60);
      case 4:
        return "since " + number(0, oneIn(4) ? 300 : 40);
      case 5:
        return "by " + number(0, oneIn(4) ? 15 : 3);
      case 6:
        return "not " + fact(depth - 1);
      default:
        return "(" + (oneIn(5) ? " " : "") + test(depth - 1) + ")";
    }
  }

  private String test(int depth) {
    StringBuilder text = new StringBuilder(fact(depth));
    int more = below(4);
    for (int i = 0; i < more; i++) {
      text.append(oneIn(2) ? " or " : " and ").append(fact(depth));
    }
    return text.toString();
  }

  private String looksText() {
    StringBuilder text = new StringBuilder();
    int looks = oneIn(12) ? from(8, 9) : from(0, 4);
    for (int i = 0; i < looks; i++) {
      text.append("seek if ").append(looks > 6 ? "by " + below(3) : test(oneIn(6) ? 9 : 3)).append(";").append(oneIn(4) ? blank() : "");
    }
    return text.toString();
  }

  private static final String ODD = "seekifornotandupt0123456789;;(() \n,A{`:/\u0000\u00e9\u00ff\t\r";

  private String spoilt(String text) {
    StringBuilder s = new StringBuilder(text);
    int times = from(1, 2);
    for (int i = 0; i < times && s.length() > 0; i++) {
      int at = below(s.length());
      switch (below(5)) {
        case 0:
          s.deleteCharAt(at);
          break;
        case 1:
          s.insert(at, ODD.charAt(below(ODD.length())));
          break;
        case 2:
          s.setCharAt(at, ODD.charAt(below(ODD.length())));
          break;
        case 3:
          s.setLength(at);
          break;
        default:
          s.insert(at, new String[] {" not ", "(", ")", ";", " or ", " 5 ", "year 5;", "1000", " by 1 "}[below(9)]);
      }
    }
    return s.toString();
  }

  private void tell(int what, String text) {
    String all = text.length() > 400 ? text.substring(0, 400) : text;
    int n = all.length();
    if (oneIn(6)) {
      all = all + "  ;;;;;;;";
      all = all.length() > 400 ? all.substring(0, 400) : all;
    }
    StringBuilder s = new StringBuilder(all);
    while (s.length() % 20 != 0) {
      s.append(' ');
    }
    for (int at = 0; at < s.length(); at += 20) {
      Object[] ints = new Object[5];
      for (int j = 0; j < 5; j++) {
        int v = 0;
        for (int c = 0; c < 4; c++) {
          v = v << 8 | s.charAt(at + 4 * j + c);
        }
        ints[j] = v;
      }
      call("feed", ints);
    }
    call("text", what, n);
    if (oneIn(2)) {
      call("fault", 0);
      call("fault", 1);
    }
  }

  private void tellSomething() {
    if (!p.tape.isEmpty()) {
      call("text", near(0, 1), near(0, p.tape.size()));
      return;
    }
    int what = below(2);
    String text = what == 0 ? lawText() : looksText();
    tell(oneIn(30) ? 1 - what : what, oneIn(3) ? spoilt(text) : text);
  }

  private void goodLaw() {
    String year = "year " + from(1, oneIn(3) ? 60 : 6) + ";";
    String all = "upto " + from(5, 40) + " take " + from(0, 9) + " per " + from(1, 20) + ";upto " + from(60, oneIn(3) ? 999 : 200) + " take " + from(0, 12)
        + " per " + from(1, 50) + ";least " + from(0, 9) + ";ticket " + from(0, 4) + ";" + year + "moth " + from(0, 20) + ";hold " + from(1, 5) + ";sworn 3;";
    tell(0, all);
  }

  // ---- calls

  private void step(int profile) {
    if (!p.tape.isEmpty() && oneIn(10)) {
      tellSomething();
      return;
    }
    if (profile == 1 && oneIn(3)) {
      call("pledge", aKind(), aPerson(), from(1, 20));
    } else if (profile == 2 && oneIn(3)) {
      lives();
    } else if (profile == 3 && oneIn(3)) {
      racks();
    } else if (profile == 4 && oneIn(3)) {
      lists();
    } else if (profile == 5 && oneIn(4)) {
      tellSomething();
      looks();
    } else if (profile == 6 && oneIn(2)) {
      tickets();
    } else if (profile == 7 && !oneIn(4)) {
      manyTickets();
    } else if (profile == 8 && oneIn(2)) {
      afterSales();
    } else if (profile == 9 && oneIn(3)) {
      imagesAndBack();
    } else if (oneIn(200)) {
      fullTape();
    } else {
      any();
    }
  }

  private void any() {
    switch (below(14)) {
      case 0:
      case 1:
      case 2:
        tickets();
        break;
      case 3:
        if (oneIn(3)) {
          tellSomething();
        } else {
          call("interest", near(0, 1), aLoan(), near(0, 40), near(0, 300));
        }
        break;
      case 4:
        call("weeks", oneIn(8) ? near(1, 52) : from(1, 3));
        break;
      case 5:
        call("pledge", aKind(), aPerson(), aLoan());
        break;
      case 6:
        racks();
        break;
      case 7:
        lives();
        break;
      case 8:
        looks();
        break;
      case 9:
        books();
        break;
      case 10:
        lists();
        break;
      case 11:
        scribes();
        break;
      case 12:
        sales();
        break;
      default:
        rowsAndImages();
    }
  }

  private void aKindMore() {
    int low = from(1, oneIn(3) ? 999 : 60);
    int high = oneIn(20) ? near(1, 999) : Math.min(999, low + below(oneIn(3) ? 900 : 30));
    call("kind", oneIn(10) ? near(1, 9) : from(1, 4), oneIn(40) ? near(1, 999) : low, high, oneIn(3) ? near(0, 99) : from(0, 9), oneIn(2));
  }

  private void aPersonMore() {
    int pay = oneIn(5) ? near(0, 999) : from(10, 40);
    call("person", pay, oneIn(5) ? near(0, 999) : from(0, 15), oneIn(5) ? near(0, 999) : from(5, 25), oneIn(5) ? near(0, 9999) : from(0, 400));
  }

  private void tickets() {
    switch (below(11)) {
      case 0:
        call("pledge", aKind(), aPerson(), aLoan());
        break;
      case 1:
        call("ticket", aNumber());
        break;
      case 2:
        call("held", aNumber(), near(0, 2));
        break;
      case 3:
      case 4:
        call("fetch", aNumber());
        break;
      case 5:
      case 6:
        call("renew", aNumber());
        break;
      case 7:
        call("swear", aPledge());
        break;
      case 8:
        call("sell", aNumber(), aPerson(), oneIn(3) ? near(0, 999) : below(20));
        break;
      case 9:
        call("of", aPledge(), near(0, 8));
        break;
      default:
        call("purse", aPerson());
    }
  }

  /** Renewed and sworn till there are no serials any more. */
  private void manyTickets() {
    if (oneIn(3)) {
      call("renew", aNumber());
    } else {
      List<PlainShop.G> here = p.s.pledges.stream().filter(g -> g.state == 0).toList();
      call("swear", here.isEmpty() || oneIn(20) ? aPledge() : here.get(below(here.size())).number);
    }
    if (p.s.tickets.size() == 150 && oneIn(8)) {
      call("pledge", aKind(), aPerson(), aLoan());
      copyPledges();
    }
  }

  private void afterSales() {
    int n = p.passed(-1);
    if (n > 0 && oneIn(2)) {
      call("sale", p.passed(below(n)), below(200));
    } else {
      List<PlainShop.G> sold = p.s.pledges.stream().filter(g -> g.state == 2).toList();
      call("over", sold.isEmpty() || oneIn(10) ? aPledge() : sold.get(below(sold.size())).number);
    }
    if (oneIn(6)) {
      call("weeks", oneIn(8) ? near(1, 52) : from(1, 6));
    }
  }

  /** What comes behind an image comes otherwise the next time, so that an image must keep all there is of it. */
  private void imagesAndBack() {
    switch (below(8)) {
      case 0:
        call("image", below(2));
        break;
      case 1:
      case 2:
        call("restore", below(2));
        break;
      case 3:
        aKindMore();
        aPersonMore();
        break;
      case 4:
        call("rack", from(3, 12), below(20));
        call("list", aKind(), Math.max(0, p.s.week - below(6)));
        call("suit", aPerson(), aKind(), aLoan());
        break;
      case 5:
        call("duty", below(4));
        call("pledge", aKind(), aPerson(), from(1, 20));
        call("put", p.s.pledges.size() - 1, near(0, p.s.racks.size() - 1));
        break;
      case 6:
        call("gained", aKind(), from(1, 40), near(0, 100), near(1, 52));
        call("life", aPerson(), 0, from(1, 40), near(1, 104), 0);
        call("of", aPledge(), near(0, 8));
        break;
      default:
        call("hand", aNumber(), stroke(), stroke(), stroke(), stroke(), stroke());
        call("foresee", oneIn(2));
        call("match", anIndex(p.s.listed.size()));
    }
    if (oneIn(4)) {
      afterSales();
    }
  }

  private void fullTape() {
    for (int i = oneIn(2) ? 21 : below(20); i > 0; i--) {
      int v = oneIn(4) ? below(1 << 30) * 5 : 0x20202020;
      call("feed", v, v, v, oneIn(3) ? 0x6f72203b : v, v);
    }
    call("text", near(0, 1) + (oneIn(3) ? 1 : 0), near(0, p.tape.size()));
    call("text", below(2), p.tape.size() + 1);
    call("text", below(2), p.tape.size());
    call("fault", near(0, 1));
    call("count", 5 + below(3));
  }

  private void sales() {
    switch (below(6)) {
      case 0:
        call("passed", anIndex(p.passed(-1)));
        break;
      case 1:
      case 2:
        int n = p.passed(-1);
        call("sale", n > 0 && !oneIn(5) ? p.passed(below(n)) : aPledge(), oneIn(3) ? near(0, 9999) : below(200));
        break;
      case 3:
        call("over", aPledge());
        break;
      case 4:
        call("foresee", oneIn(2));
        break;
      default:
        call("lots", near(1, 10), anIndex(10));
        call("lots", from(1, 3), anIndex(3));
    }
  }

  private void racks() {
    switch (below(9)) {
      case 0:
        call("rack", oneIn(3) ? near(1, 99) : from(1, 12), near(0, 99));
        break;
      case 1:
      case 2:
      case 3:
        call("put", aPledge(), near(0, p.s.racks.size() - 1));
        break;
      case 4:
        call("rush", aPledge(), oneIn(3) ? near(0, 255) : below(16) & below(256));
        break;
      case 5:
        call("trips", aPledge(), oneIn(3) ? near(0, 255) : below(256) & below(256), oneIn(3) ? near(1, 99) : from(3, 15));
        racked();
        break;
      case 6:
        weights();
        break;
      default:
        call("best", near(0, 3), near(1, 7), anIndex(7));
    }
  }

  /** TRIPS and RUSH of just those that lie on RACKS among eight in a row. */
  private void racked() {
    int at = below(Math.max(1, p.s.pledges.size())) - below(3);
    int bits = 0;
    for (int j = 0; j < 8; j++) {
      int n = at + j;
      if (n >= 0 && n < p.s.pledges.size() && p.s.pledges.get(n).rack != null) {
        bits |= 1 << j;
      }
    }
    call("trips", at, bits, from(2, 20));
    call("rush", at, bits);
  }

  private void weights() {
    int row = below(4);
    call("row", row, below(4), oneIn(3) ? near(0, 40) : 7);
    for (int j = 0; j < 7; j++) {
      call("write", row, j, (long) (oneIn(60) ? near(0, 99) : oneIn(2) ? below(3) : below(100)));
    }
    int n = from(1, 7);
    call("best", row, n, -1);
    call("best", row, n, below(n));
    call("best", row, n, n - 1);
  }

  private void lives() {
    int loan = aLoan();
    switch (below(7)) {
      case 0:
        aPersonMore();
        break;
      case 1:
      case 2:
        call("life", aPerson(), aKind(), loan, near(1, 104), oneIn(3) ? near(0, 999) : below(30));
        break;
      case 3:
        call("needs", aPerson(), aKind(), loan, near(1, 104));
        break;
      case 4:
        call("suit", aPerson(), aKind(), loan);
        break;
      case 5:
        call("street", near(1, 104), oneIn(3) ? near(0, 999) : below(30));
        break;
      default:
        call("shilling", near(1, 104));
    }
  }

  private void looks() {
    int n = p.s.looks.size();
    switch (below(6)) {
      case 0:
      case 1:
        call("fits", near(0, n - 1), anIndex(p.s.pledges.size()));
        break;
      case 2:
        call("hold", near(0, n - 1));
        break;
      case 3:
        call("runs", aPerson(), near(0, 1));
        break;
      case 4:
        if (oneIn(4)) {
          call("other");
        } else {
          call("runs", aPerson(), 1);
        }
        break;
      default:
        call("interest", 1, aLoan(), near(0, 20), near(0, 300));
    }
  }

  private void books() {
    switch (below(7)) {
      case 0:
      case 1:
        call("book", oneIn(3) ? near(0, p.s.week) : p.s.week, near(0, 4));
        break;
      case 2:
      case 3:
        call("worst", near(1, Math.min(52, p.s.week + 1)), near(0, 1));
        break;
      case 4:
        call("chain", aPerson());
        break;
      case 5:
        call("lend", aKind(), near(0, 100), near(1, 52));
        break;
      default:
        call("gained", aKind(), aLoan(), near(0, 100), near(1, 52));
    }
  }

  private void scribes() {
    switch (below(6)) {
      case 0:
        call("scribe", near(0, 3), stroke(), stroke(), stroke(), stroke(), stroke());
        break;
      case 1:
        call("duty", near(0, 3));
        break;
      case 2:
        call("renewals", aPledge(), near(0, 1));
        break;
      default:
        call("hand", aNumber(), stroke(), stroke(), stroke(), stroke(), stroke());
    }
  }

  private void lists() {
    switch (below(5)) {
      case 0:
        call("list", aKind(), oneIn(4) ? near(0, 300) : Math.max(0, p.s.week - below(6)));
        break;
      case 1:
        aKindMore();
        break;
      default:
        call("match", anIndex(p.s.listed.size()));
    }
  }

  private void rowsAndImages() {
    switch (below(9)) {
      case 0:
        call("row", near(0, 3), near(0, 3), near(0, 40));
        break;
      case 1:
        long v = (long) near(-300, 300) << (oneIn(3) ? below(64) : 0);
        call("write", near(0, 3), near(0, 39), v + below(3));
        break;
      case 2:
      case 3:
        copyPledges();
        break;
      case 4:
        call("clerk", near(0, 3));
        break;
      case 5:
        call("image", near(0, 1));
        break;
      case 6:
        call("restore", near(0, 1));
        break;
      default:
        call("count", oneIn(2) ? near(0, 11) : near(20, 19 + p.s.racks.size()));
    }
  }

  private void copyPledges() {
    int row = below(4);
    int n = from(1, 9);
    call("row", row, from(1, 3), n);
    for (int j = 0; j < n; j++) {
      int v = j % 3 == 0 ? aKind() : j % 3 == 1 ? aPerson() : from(1, 30);
      call("write", row, j, oneIn(60) ? v + (1L << 32) : (long) v);
    }
    call("clerk", row);
  }

  private boolean run() {
    int profile = below(10);
    if (!oneIn(12)) {
      goodLaw();
    }
    if (oneIn(3)) {
      call("other");
    }
    for (int i = from(0, 4); i > 0; i--) {
      aKindMore();
      aPersonMore();
    }
    int racks = oneIn(5) ? 10 : from(0, 5);
    for (int i = 0; i < racks; i++) {
      call("rack", from(3, 12), below(20));
    }
    while (calls < CALLS && !wrong) {
      if (profile == 1 && calls < 200 && oneIn(2)) {
        call("pledge", aKind(), aPerson(), from(1, 20));
      }
      if (profile == 0 && oneIn(30)) {
        aKindMore();
        aPersonMore();
      }
      step(profile);
    }
    if (wrong) {
      System.out.println("run of seed " + seedAtFirst + ":");
      told.forEach(System.out::println);
    }
    return !wrong;
  }

  /** Each call must have been refused by each of its codes, and been answered. */
  private static boolean allAnswered() {
    String due = "feed -4 1;text -2 -3 -11 -12 -13 -14 -15 1;fault -1 1;other 1;interest -2 -3 -5 1;kind -3 -4 1;person -3 -4 1;purse -1000000 1;"
        + "weeks -3 -5 1;pledge -2 -3 -4 -5 1;ticket 1;held -2 1;fetch -2 -5 -8 1;renew -2 -4 -8 1;swear -2 -4 -5 -8 1;sell -2 -3 -8 1;of -1000 -1 1;"
        + "passed -1 1;sale -1000000 1;over -2 -5 1;lend -2 -3 1;gained -2 -3 -5 1;rack -3 -4 1;put -2 -5 1;rush -3 -5 1;best -1 -2 -3 -5 -6 -7 1;"
        + "life -2 -3 -5 -1 1;needs -2 -3 -5 -1 1;lots -1 -3 -5 1;fits -1 -2 1;hold -2 1;runs -2 -5 1;chain -2 1;book -2 1;worst -2 -3 1;scribe -2 -3 1;"
        + "duty -2 1;hand -2 -3 1;suit -2 -3 1;street -3 1;shilling -3 1;trips -1 -3 -5 1;renewals -2 1;foresee 1;list -2 -3 -4 1;match -1 1;row -2 -3 1;"
        + "write -2 -6 -7 1;clerk -2 -6 1;image -2 1;restore -2 -5 1;count -1 1";
    boolean all = true;
    for (String one : due.split(";")) {
      String[] words = one.split(" ");
      for (int i = 1; i < words.length; i++) {
        if (!ANSWERS.getOrDefault(words[0], new TreeMap<>()).containsKey(Long.parseLong(words[i]))) {
          System.out.println("no run answered " + words[0] + " by " + words[i]);
          all = false;
        }
      }
    }
    return all;
  }

  public static void main(String[] args) {
    for (Method m : BrassBalls.class.getDeclaredMethods()) {
      if (java.lang.reflect.Modifier.isPublic(m.getModifiers())) {
        FACE.put(m.getName(), m);
      }
    }
    for (Method m : PlainShop.class.getDeclaredMethods()) {
      if (java.lang.reflect.Modifier.isPublic(m.getModifiers())) {
        PLAIN.put(m.getName(), m);
      }
    }
    int first = args.length > 0 ? Integer.parseInt(args[0]) : 1;
    int runs = args.length > 1 ? Integer.parseInt(args[1]) : 2000;
    for (int seed = first; seed < first + runs; seed++) {
      if (!new RandomRuns(seed).run()) {
        System.exit(1);
      }
    }
    if (!FACE.keySet().equals(PLAIN.keySet()) || !allAnswered()) {
      System.exit(1);
    }
    System.out.println("RandomRuns: " + runs + " runs are as due");
  }
}
