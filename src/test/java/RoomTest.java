import java.lang.management.ManagementFactory;

/** All calls of a run live in one room: the dearest ones, many times, must make next to nothing. */
public final class RoomTest {
  private static final com.sun.management.ThreadMXBean THREADS =
      (com.sun.management.ThreadMXBean) ManagementFactory.getThreadMXBean();
  private static int wrong = 0;

  public static void main(String[] args) {
    // once ahead, so that what the machine itself makes at first is not counted
    run();
    long before = made();
    DotPress made = new DotPress();
    within("a new object", made() - before, 64 * 1024);
    made.status();
    before = made();
    run();
    within("500 dear calls", made() - before, 3 * 1024 * 1024);
    before = made();
    changes();
    within("500 changes of TABLES", made() - before, 512 * 1024);
    System.out.println("RoomTest: " + wrong + " faults");
    if (wrong != 0) {
      System.exit(1);
    }
  }

  private static long made() {
    return THREADS.getThreadAllocatedBytes(Thread.currentThread().getId());
  }

  private static void within(String what, long bytes, long most) {
    System.out.println(what + ": " + bytes + " bytes");
    if (bytes > most) {
      wrong++;
      System.out.println(what + " may make " + most);
    }
  }

  private static void run() {
    DotPress x = new DotPress();
    int t = Check.plain(x, "abc");
    Check.rule(x, t, 0, "abcabcab", 1);
    x.measure(1, 50, 36);
    Check.text(x, "a ".repeat(200));
    x.set(t);
    for (int l = 0; l < 200; l++) {
      x.cut(l, l == 199 ? 100 : 200);
    }
    for (int i = 0; i < 70; i++) {
      x.set(t);
      x.read(t, 0, 200);
      x.readings(t, 199, 50);
      x.saved(t, t);
      x.digest();
    }
    for (int i = 0; i < 20; i++) {
      x.unreadable(t, 6, 5000);
    }
    for (int l = 0; l < 200; l++) {
      x.cut(l, 200);
    }
    x.read(t, 0, 200);
  }

  private static void changes() {
    DotPress x = new DotPress();
    for (int i = 0; i < 30; i++) {
      x.table(0, 8, 0);
    }
    for (int i = 0; i < 160; i++) {
      x.feed('a' << 24 | 1 << 16, 0, 0, 0, 0);
      x.end(2);
      x.rule(i % 30, 0, 1);
    }
  }
}
