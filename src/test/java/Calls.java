import java.lang.reflect.InvocationTargetException;
import java.lang.reflect.Method;
import java.util.HashMap;
import java.util.Map;

/** Calls a method by its name, and tells as a text what it answers or throws. */
final class Calls {
  // Looking a method up takes far longer than calling it.
  private static final Map<Class<?>, Map<String, Method>> KNOWN = new HashMap<>();

  private Calls() {}

  /** The call is written as "name number ..". */
  static String tell(Object on, String call) {
    String[] words = call.trim().split(" ");
    int[] numbers = new int[words.length - 1];
    for (int i = 0; i < numbers.length; i++) {
      numbers[i] = Integer.parseInt(words[i + 1]);
    }
    return call(on, words[0], numbers);
  }

  static String call(Object on, String name, int... numbers) {
    try {
      Object[] arguments = new Object[numbers.length];
      for (int i = 0; i < numbers.length; i++) {
        arguments[i] = numbers[i];
      }
      return String.valueOf(methodOf(on, name).invoke(on, arguments));
    } catch (InvocationTargetException e) {
      return "throws " + e.getCause().getClass().getSimpleName();
    } catch (IllegalAccessException e) {
      throw new IllegalStateException(e);
    }
  }

  private static Method methodOf(Object on, String name) {
    Map<String, Method> methods = KNOWN.computeIfAbsent(on.getClass(), Calls::methodsOf);
    Method method = methods.get(name);
    if (method == null) {
      throw new IllegalStateException("no method " + name);
    }
    return method;
  }

  private static Map<String, Method> methodsOf(Class<?> type) {
    Map<String, Method> methods = new HashMap<>();
    for (Method method : type.getDeclaredMethods()) {
      methods.put(method.getName(), method);
    }
    return methods;
  }
}
