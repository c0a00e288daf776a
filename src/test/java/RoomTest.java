import java.lang.management.ManagementFactory;

/** Calls make nothing that is kept or thrown away: the room of a run is what its constructor makes, and that is small. */
public final class RoomTest {
  /** Those that fill a shop come ahead of them, 512 are promised in all. */
  private static final int CALLS = 320;
  private static final com.sun.management.ThreadMXBean METER = (com.sun.management.ThreadMXBean) ManagementFactory.getThreadMXBean();

  private static long made() {
    return METER.getThreadAllocatedBytes(Thread.currentThread().getId());
  }

  private static BrassBalls filled() {
    BrassBalls b = new BrassBalls();
    b.feed(0x7570746f, 0x20393939, 0x2074616b, 0x65203920, 0x70657220);
    b.feed(0x393b7965, 0x61722031, 0x3b202020, 0x20202020, 0x20202020);
    b.text(0, 29);
    for (int i = 0; i < 12; i++) {
      b.kind(1, 1, 999, i, true);
      b.person(30, 10, 20, 9999);
      b.rack(30, i);
      b.list(0, 0);
    }
    for (int i = 0; i < 60; i++) {
      b.pledge(0, i % 12, 9);
      b.put(i, i % 9);
    }
    b.row(0, 3, 40);
    return b;
  }

  private static long calls(BrassBalls b) {
    long sum = 0;
    for (int i = 0; i < CALLS / 16; i++) {
      sum += b.feed(0x7365656b, 0x20696620, 0x636c6f74, 0x683b2020, 0x20202020) + b.text(1, 14) + b.fits(0, -1) + b.hold(0);
      sum += b.needs(0, 0, 9, 104) + b.street(104, 999) + b.lend(0, 50, 5) + b.gained(0, 9, 5, 5) + b.trips(0, 255, 9) + b.best(0, 1, -1);
      sum += b.match(11) + b.lots(5, 4) + b.worst(1, 0) + b.image(0) + b.restore(0) + b.clerk(0);
    }
    return sum;
  }

  public static void main(String[] args) {
    made();
    calls(filled());
    long before = made();
    BrassBalls b = new BrassBalls();
    long byConstructor = made() - before;
    b = filled();
    before = made();
    long sum = calls(b);
    long byCalls = made() - before;
    if (byConstructor > 200000 || byCalls > 1000) {
      System.out.println("RoomTest: bytes by the constructor " + byConstructor + ", by calls " + byCalls + " (" + sum + ")");
      System.exit(1);
    }
    System.out.println("RoomTest: " + byConstructor + " bytes a shop, " + byCalls + " by " + CALLS + " calls");
  }
}
