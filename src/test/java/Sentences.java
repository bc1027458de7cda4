import java.lang.reflect.InvocationTargetException;
import java.lang.reflect.Method;
import java.lang.reflect.Modifier;
import java.util.ArrayList;
import java.util.Comparator;
import java.util.List;

/** Runs the tests of single sentences: each one is a static method that is marked with Holds. */
final class Sentences {
  private Sentences() {}

  static void runAll(Class<?> tests) {
    List<Method> all = of(tests);
    for (Method test : all) {
      run(test);
    }
    Check.about("");
    Check.yes("tests were found", !all.isEmpty());
    Check.end(tests.getSimpleName() + ", " + all.size() + " sentences");
  }

  /** In the order of their names, as the machine promises none. */
  static List<Method> of(Class<?> tests) {
    List<Method> found = new ArrayList<>();
    for (Method method : tests.getDeclaredMethods()) {
      if (method.isAnnotationPresent(Holds.class)) {
        found.add(method);
      } else if (!Modifier.isPrivate(method.getModifiers()) && !method.getName().equals("main")) {
        throw new IllegalStateException(method + " does not say what it holds");
      }
    }
    found.sort(Comparator.comparing(Method::getName));
    return found;
  }

  private static void run(Method test) {
    Holds holds = test.getAnnotation(Holds.class);
    Check.about(holds.in() + " (" + test.getName() + "), \"" + holds.says() + "\"");
    int before = Check.count();
    try {
      test.invoke(null);
    } catch (InvocationTargetException e) {
      Check.same("the test", "threw " + e.getCause(), "nothing");
    } catch (IllegalAccessException e) {
      Check.same("the test", "can't be called", "called");
    }
    Check.yes("something was checked", Check.count() > before);
  }
}
