import com.sun.management.ThreadMXBean;
import java.lang.management.ManagementFactory;

/** 512 of the dearest calls on one object take little of the room that a run has. */
public final class RoomTest {
  private static final int CALLS = 512;
  private static final int BYTES_MOST = 1000000;
  private static final ThreadMXBean THREADS =
      (ThreadMXBean) ManagementFactory.getThreadMXBean();

  public static void main(String[] args) {
    for (int kind = 0; kind < 4; kind++) {
      play(kind);
      long before = THREADS.getThreadAllocatedBytes(Thread.currentThread().getId());
      play(kind);
      long taken = THREADS.getThreadAllocatedBytes(Thread.currentThread().getId()) - before;
      if (taken > BYTES_MOST) {
        Script.fault("kind " + kind + " took " + taken + " bytes");
      }
    }
    Script.end();
  }

  private static void play(int kind) {
    Manypanes x = new Manypanes();
    x.fill(0, 1000000, 1000000, 16);
    for (int call = 1; call < CALLS; call++) {
      if (kind == 0) {
        x.digest();
      } else if (kind == 1) {
        x.whole(0);
      } else if (kind == 2) {
        x.fresh(call % 6, 12);
      } else {
        x.isSound();
      }
    }
  }
}
