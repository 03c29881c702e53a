import com.sun.management.ThreadMXBean;
import java.lang.management.ManagementFactory;

/** What an object costs: its rows are made once and used again, however dear the 512 calls are. */
public final class RoomTest {
  private static final int CALLS = 512;
  /** Two media of 200 sectors with every row made. */
  private static final long MOST = 2L * 200 * 2048;

  interface Run {
    void on(WriteOnceDisc x);
  }

  public static void main(String[] args) {
    Checks.part("room");
    // the first object has the class loaded, which takes room of its own
    fill(new WriteOnceDisc(200));
    cost("a new object", 40_000, x -> { });
    cost("compact", MOST, x -> {
      fill(x);
      for (int i = 30; i < CALLS; i++) x.compact();
    });
    cost("discover", MOST, x -> {
      fill(x);
      x.commit();
      for (int i = 31; i < CALLS; i++) x.discover();
    });
    cost("mark and open", MOST, x -> {
      fill(x);
      x.commit();
      for (int i = 31; i < CALLS; i += 2) {
        x.mark(0, 3);
        x.open(0);
      }
    });
    cost("commit", MOST, x -> {
      for (int i = 0; i < CALLS; i += 2) {
        x.commit();
        x.file(0, Checks.word("F" + i % 29), 6000, 7);
      }
    });
    cost("compact without power", MOST, x -> {
      fill(x);
      for (int i = 30; i < CALLS - 3; i += 3) {
        x.power(80);
        x.compact();
        x.discover();
      }
    });
    cost("file and remove", 60_000, x -> {
      for (int i = 1; i <= CALLS / 2; i++) {
        x.file(0, 65L, 1, 1);
        x.remove(i);
      }
    });
    Checks.finish();
  }

  private static void fill(WriteOnceDisc x) {
    for (int i = 0; i < 29; i++) x.file(0, Checks.word("F" + i), 6000, i);
  }

  private static void cost(String what, long most, Run run) {
    ThreadMXBean threads = (ThreadMXBean) ManagementFactory.getThreadMXBean();
    long id = Thread.currentThread().getId();
    long before = threads.getThreadAllocatedBytes(id);
    run.on(new WriteOnceDisc(200));
    long bytes = threads.getThreadAllocatedBytes(id) - before;
    System.out.println(what + ": " + bytes + " bytes");
    Checks.due("more than " + most + " bytes for " + what, bytes > most, false);
  }
}
