import java.lang.management.ManagementFactory;

/** All calls of a run share one room, so the dearest calls must make no objects of their own. */
final class RoomTest {
  // A new object with all its rows takes some 20,000 bytes, and no call may add to them.
  private static final long MOST_BYTES = 60_000;

  public static void main(String[] args) {
    com.sun.management.ThreadMXBean threads =
        (com.sun.management.ThreadMXBean) ManagementFactory.getThreadMXBean();
    long thread = Thread.currentThread().getId();
    // The first run also loads classes, which is not the run's own.
    dearRun();
    long before = threads.getThreadAllocatedBytes(thread);
    int copies = dearRun();
    long made = threads.getThreadAllocatedBytes(thread) - before;
    System.out.println(made + " bytes made in a run of calls on " + copies + " copies");
    if (made > MOST_BYTES || copies < 250) {
      System.out.println("due are at most " + MOST_BYTES + " on at least 250 copies");
      System.exit(1);
    }
  }

  /** Builds and reactions of a program near the limits of the document; its copies. */
  private static int dearRun() {
    ReactiveWires wires = new ReactiveWires();
    int pause = wires.make(1, 0, 0, 0);
    int nothing = wires.make(0, 0, 0, 0);
    int emit = wires.make(2, 3, 0, 0);
    int asking = wires.make(6, 3, nothing, nothing);
    int local = wires.make(8, 3, wires.make(4, asking, emit, 0), 0);
    int part = wires.make(3, pause, local, 0);
    for (int i = 0; i < 5; i++) {
      part = wires.make(4, part, part, 0);
    }
    for (int i = 0; i < 100; i++) {
      wires.build(part);
      wires.react(i % 8);
      wires.react(i % 8);
      wires.reset();
    }
    return wires.count(1);
  }
}
