import java.lang.reflect.Constructor;
import java.lang.reflect.Field;
import java.lang.reflect.Method;
import java.lang.reflect.Modifier;
import java.util.Set;
import java.util.TreeSet;

/** The class has the document's face, and shows nothing else. */
public final class FaceTest {
  private static final String INDEX = " throws IndexOutOfBoundsException";
  private static final String BOTH = INDEX + ", IllegalArgumentException";
  private static final String[] FACE = {
    "int wrap(3)" + BOTH, "int fresh(2)" + BOTH, "int twin(2)" + INDEX, "int rest(2)" + INDEX,
    "int part(4)" + INDEX, "int reader(2)" + INDEX, "int exchange(2)" + INDEX,
    "int go(2)" + INDEX, "int move(2)" + BOTH, "int end(2)" + INDEX, "int stretch(2)" + BOTH,
    "int mark(1)" + INDEX, "int back(1)" + INDEX, "int clear(1)" + INDEX, "int flip(1)" + INDEX,
    "int rewind(1)" + INDEX, "int put(2)" + BOTH, "int putAt(3)" + BOTH, "int bring(4)" + INDEX,
    "int fill(4)" + BOTH, "int pack(1)" + INDEX, "int pour(3)" + BOTH, "int lay(2)" + BOTH,
    "int reach(3)" + BOTH, "int get(1)" + INDEX, "int drain(2)" + BOTH, "int pop(1)" + INDEX,
    "int ofPane(2)" + BOTH, "int at(2)" + INDEX, "int peek(1)" + INDEX,
    "String total(1)" + INDEX, "String text(1)" + INDEX, "String whole(1)" + INDEX,
    "String row(0)", "int isKin(2)" + INDEX, "int sees(3)" + INDEX, "int would(2)" + BOTH,
    "int house(1) throws IllegalArgumentException", "int knock(0)", "boolean isSound(0)",
    "long digest(0)"};

  public static void main(String[] args) {
    if (!Modifier.isFinal(Manypanes.class.getModifiers())) {
      Script.fault("the class is not final");
    }
    lookAtMethods();
    for (Field field : Manypanes.class.getDeclaredFields()) {
      boolean fixed = !Modifier.isStatic(field.getModifiers())
          || Modifier.isFinal(field.getModifiers());
      if (!Modifier.isPrivate(field.getModifiers()) || !fixed) {
        Script.fault("the field " + field.getName() + " is not private, or static and not final");
      }
    }
    Constructor<?>[] all = Manypanes.class.getDeclaredConstructors();
    if (all.length != 1 || all[0].getParameterCount() != 0
        || !Modifier.isPublic(all[0].getModifiers())) {
      Script.fault("the constructors are others");
    }
    for (Class<?> inside : Manypanes.class.getDeclaredClasses()) {
      if (Modifier.isPublic(inside.getModifiers()) || !Modifier.isStatic(inside.getModifiers())) {
        Script.fault("the class " + inside.getName() + " is public or not static");
      }
    }
    Script.end();
  }

  private static void lookAtMethods() {
    Set<String> due = new TreeSet<>(Set.of(FACE));
    Set<String> names = new TreeSet<>();
    for (Method method : Manypanes.class.getDeclaredMethods()) {
      if (Modifier.isPublic(method.getModifiers())) {
        names.add(method.getName());
        for (Class<?> type : method.getParameterTypes()) {
          if (type != int.class) {
            Script.fault("a number that is no int: " + told(method));
          }
        }
        if (!due.remove(told(method))) {
          Script.fault("not of the face: " + told(method));
        }
      } else if (!Modifier.isPrivate(method.getModifiers())) {
        Script.fault("neither public nor private: " + method.getName());
      }
    }
    for (Method method : Manypanes.class.getDeclaredMethods()) {
      if (!Modifier.isPublic(method.getModifiers()) && names.contains(method.getName())) {
        Script.fault("private with a public one's name: " + method.getName());
      }
    }
    for (String missing : due) {
      Script.fault("missing: " + missing);
    }
  }

  private static String told(Method method) {
    StringBuilder told = new StringBuilder(method.getReturnType().getSimpleName());
    told.append(' ').append(method.getName());
    told.append('(').append(method.getParameterCount()).append(')');
    String between = " throws ";
    for (Class<?> type : method.getExceptionTypes()) {
      told.append(between).append(type.getSimpleName());
      between = ", ";
    }
    return told.toString();
  }
}
