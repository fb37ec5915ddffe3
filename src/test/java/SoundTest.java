import java.lang.reflect.Array;
import java.lang.reflect.Field;

/**
 * Promises 41 and 42 once more: no call can make an object unsound, so the fields of each pane are
 * damaged from outside to see that isSound() does look, that digest() tells of it, and that no
 * damage makes one of them throw or not end.
 */
public final class SoundTest {
  private static final int PANES = 6;

  public static void main(String[] args) throws ReflectiveOperationException {
    compareDigests("a new object", new Manypanes());
    for (int pane = 0; pane < PANES; pane++) {
      hold("false", pane, "position", -1);
      hold("false", pane, "position", 17);
      hold("false", pane, "position", 12);
      hold("false", pane, "position", 11);
      hold("false", pane, "limit", 4);
      hold("false", pane, "limit", 17);
      hold("false", pane, "limit", -1);
      hold("false", pane, "capacity", 9);
      hold("false", pane, "marked", 6);
      hold("false", pane, "marked", -2);
      hold("false", pane, "position", Integer.MIN_VALUE);
      hold("false", pane, "limit", Integer.MIN_VALUE);
      hold("false", pane, "marked", Integer.MAX_VALUE);
      hold("true", pane, "position", 10);
      hold("true", pane, "position", 0);
      hold("true", pane, "limit", 5);
      hold("true", pane, "limit", 16);
      hold("true", pane, "capacity", 10);
      hold("true", pane, "marked", 5);
      hold("true", pane, "marked", 0);
    }
    Script.end();
  }

  private static void hold(String sound, int pane, String name, int number)
      throws ReflectiveOperationException {
    Manypanes x = changed(pane, name, number);
    String told = Calls.call(x, "isSound");
    if (!told.equals(sound)) {
      Script.fault("with " + name + " " + number + " isSound() tells " + told);
    }
    // A sum over numbers that are far off would take the other calls where they need not hold.
    if (number >= -2 && number <= 17) {
      compareDigests("with " + name + " " + number, x);
    }
  }

  private static Manypanes changed(int pane, String name, int number)
      throws ReflectiveOperationException {
    Manypanes x = new Manypanes();
    x.wrap(pane, 5, 5);
    if (!x.isSound()) {
      Script.fault("not sound ahead of any damage");
    }
    Field panes = Manypanes.class.getDeclaredField("panes");
    panes.setAccessible(true);
    Object changed = Array.get(panes.get(x), pane);
    Field field = changed.getClass().getDeclaredField(name);
    field.setAccessible(true);
    field.setInt(changed, number);
    return x;
  }

  /** What digest() is due to add up, asked one by one of the same object. */
  private static void compareDigests(String title, Manypanes x) {
    long d = 8017;
    for (int what = 0; what <= 8; what++) {
      d = d * 31 + x.house(what);
    }
    for (int pane = 0; pane < PANES; pane++) {
      for (int what = 0; what <= 9; what++) {
        d = d * 31 + x.ofPane(pane, what);
      }
      d = added(added(d, x.whole(pane)), x.total(pane));
    }
    for (int pane = 0; pane < PANES; pane++) {
      int next = pane == 5 ? 0 : pane + 1;
      d = d * 31 + x.isKin(pane, next);
      d = d * 31 + x.sees(pane, 0, next);
    }
    d = added(d, x.row()) * 31 + (x.isSound() ? 1 : 0);
    if (d != x.digest()) {
      Script.fault(title + ": digest() is not what its calls tell");
    }
  }

  private static long added(long before, String text) {
    long d = before;
    for (int i = 0; i < text.length(); i++) {
      d = d * 31 + text.charAt(i);
    }
    return d;
  }
}
