import java.util.function.Consumer;

/**
 * "All that is in an IMAGE is as it was": two ways in which a shop can go, which differ in all that has the same number in both. However often one
 * is left for the other, the shop must be told and go on as one in which the other never was.
 */
public final class ImageTests extends Helpers {
  private static void begin(BrassBalls b, int way) {
    if (way == 1) {
      tell(b, 0, "upto 60 take 1 per 9;");
      b.other();
    }
    tell(b, 0, "upto " + 30 * way + " take " + way + " per 5;upto 99 take 5 per " + way + ";least " + way + ";ticket " + (3 - way) + ";sworn " + way
        + ";year " + way + ";moth " + 5 * way + ";" + (way == 1 ? "hold 9;" : ""));
    tell(b, 1, way == 1 ? "seek if by 0;seek if cloth;" : "seek if not kind 1;");
    b.kind(2 + way, 10 * way, 14 * way, 10 * way, way == 1);
    b.kind(5 - way, 31, 40, 5, way == 2);
    b.person(30 + way, 5, 20 * way, 50 * way);
    b.person(way, 10 * way, 5, 100 + way);
    b.suit(0, 0, 4 * way);
    if (way == 1) {
      b.suit(1, 1, 9);
    }
    b.rack(10 + way, 3 * way);
    b.rack(4 + way, way);
    b.scribe(1, way, 5, way, 0, 1);
    b.list(way - 1, way);
    b.list(0, 2 - way);
  }

  private static void goOn(BrassBalls b, int way) {
    b.duty(way);
    b.weeks(way);
    for (int i = 0; i < 4; i++) {
      b.pledge((i + way) % 2, i % 2, 10 * way + i);
    }
    b.put(way, 0);
    b.put(3, 1);
    b.weeks(3);
    b.duty(3 - way);
    b.fetch(number(way));
    b.pledge(0, way - 1, 8);
    b.sale(2 - way, 70 + way);
    b.renew(number(3));
    b.hold(0);
    if (way == 1) {
      b.renew(number(6));
      b.swear(3);
    } else {
      b.sell(number(4), 0, 2);
    }
    b.weeks(1);
    b.pledge(way - 1, way - 1, 7);
  }

  private static void whole(BrassBalls b, int way) {
    begin(b, way);
    goOn(b, way);
  }

  /** What changes the shop: what is kept and not told shows, and what comes new must be new in all. */
  private static String further(BrassBalls b) {
    StringBuilder s = new StringBuilder();
    add(s, b.over(0), b.over(1), b.over(1), b.kind(1, 5, 9, 5, true), b.person(0, 999, 999, 0), b.street(104, 0), b.rack(3, 3), b.list(2, 0));
    int number = b.pledge(2, 2, 9);
    int pledge = b.held(number, 0);
    for (int what = 0; what < 9; what++) {
      add(s, b.of(pledge, what));
    }
    add(s, number, pledge, b.renewals(pledge, 0), b.renewals(pledge, 1), b.over(pledge), b.hand(number, 1, 5, 1, 0, 1), b.count(22));
    add(s, b.pledge(0, 0, 5), b.pledge(0, 1, 5), b.chain(0), b.chain(1), b.match(-1), b.match(0), b.match(1), b.match(2), b.hold(0), b.hold(1));
    add(s, b.fetch(number(4)), b.renew(number(6)), b.swear(2), b.swear(3), b.suit(2, 1, 5), b.street(9, 9), b.weeks(2), b.passed(-1), b.foresee(true));
    for (int serial = 1; serial <= 6; serial++) {
      add(s, b.hand(number(serial), 0, 0, 0, 0, 0), b.hand(number(serial), 1, 5, 1, 0, 1));
    }
    for (int i = 0; i < 4; i++) {
      add(s, b.weeks(i == 0 ? 48 : 1), b.over(0), b.over(1));
    }
    add(s, b.purse(0), b.purse(1), b.purse(2), b.count(2), b.count(3), b.count(9), b.worst(6, 0), b.worst(6, 1), b.passed(-1));
    return s.toString();
  }

  private static String answers(BrassBalls b) {
    return told(b) + "| " + further(b);
  }

  private static void same(String what, BrassBalls b, Consumer<BrassBalls> alone) {
    BrassBalls twin = new BrassBalls();
    alone.accept(twin);
    String told = answers(b);
    String due = answers(twin);
    if (!told.equals(due)) {
      wrong++;
      System.out.println("ImageTests: " + what + ":\n  " + told + "\n  is due to be\n  " + due);
    }
  }

  /** Both ways from nothing; the first is left for the second, and then so many times one for the other. */
  private static void fromNothing(int first, int times) {
    BrassBalls b = new BrassBalls();
    due("image of an empty shop", b.image(0), 0);
    whole(b, first);
    due("image", b.image(1), 0);
    due("restore", b.restore(0), 0);
    for (int what : new int[] {0, 1, 2, 3, 4, 5, 6, 8, 9, 10, 11}) {
      due("count(" + what + ")", b.count(what), 0);
    }
    whole(b, 3 - first);
    due("in place of the empty one", b.image(0), 0);
    for (int i = 0; i < times; i++) {
      due("restore", b.restore(1 - i % 2), 0);
    }
    same("way " + first + ", " + times + " times back", b, twin -> whole(twin, times % 2 == 1 ? first : 3 - first));
  }

  /** The same beginning goes on in one way and then in the other. */
  private static void fromBeginning(int way, int first) {
    BrassBalls b = new BrassBalls();
    begin(b, way);
    b.image(1);
    goOn(b, first);
    b.image(0);
    further(b);
    due("restore", b.restore(1), 0);
    goOn(b, 3 - first);
    same("beginning " + way + " without " + first, b, twin -> {
      begin(twin, way);
      goOn(twin, 3 - first);
    });
  }

  /** One way, and back to it from what came behind it. */
  private static void andBack(int way, int first) {
    BrassBalls b = new BrassBalls();
    begin(b, way);
    goOn(b, first);
    b.image(0);
    further(b);
    goOn(b, 3 - first);
    due("restore", b.restore(0), 0);
    same("beginning " + way + " by " + first, b, twin -> {
      begin(twin, way);
      goOn(twin, first);
    });
  }

  public static void main(String[] args) {
    at = "images";
    for (int first = 1; first <= 2; first++) {
      for (int times = 0; times < 4; times++) {
        fromNothing(first, times);
      }
      for (int way = 1; way <= 2; way++) {
        fromBeginning(way, first);
        andBack(way, first);
      }
    }
    System.out.println("ImageTests: " + (wrong == 0 ? "images keep all there is" : wrong + " answers are not as due"));
    if (wrong != 0) {
      System.exit(1);
    }
  }
}
