import java.lang.reflect.Array;
import java.lang.reflect.Field;

/**
 * Promise 41 once more: no call can make an object unsound, so the fields of a pane are damaged
 * from outside to see that isSound() does look, and that no damage makes it throw or not end.
 */
public final class SoundTest {
  private static final int PANE = 2;

  public static void main(String[] args) throws ReflectiveOperationException {
    damage("position", -1);
    damage("position", 17);
    damage("position", 12);
    damage("limit", 3);
    damage("limit", 17);
    damage("limit", -1);
    damage("capacity", 9);
    damage("marked", 6);
    damage("marked", -2);
    damage("position", Integer.MIN_VALUE);
    damage("limit", Integer.MIN_VALUE);
    damage("marked", Integer.MAX_VALUE);
    Script.end();
  }

  private static void damage(String name, int number) throws ReflectiveOperationException {
    Manypanes x = new Manypanes();
    x.wrap(PANE, 5, 5);
    if (!x.isSound()) {
      Script.fault("not sound ahead of any damage");
    }
    Field panes = Manypanes.class.getDeclaredField("panes");
    panes.setAccessible(true);
    Object pane = Array.get(panes.get(x), PANE);
    Field field = pane.getClass().getDeclaredField(name);
    field.setAccessible(true);
    field.setInt(pane, number);
    String told = Calls.call(x, "isSound");
    if (!told.equals("false")) {
      Script.fault("with " + name + " " + number + " isSound() tells " + told);
    }
  }
}
