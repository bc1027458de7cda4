import java.lang.reflect.Field;
import java.lang.reflect.Method;
import java.lang.reflect.Modifier;
import java.util.Arrays;
import java.util.Set;
import java.util.TreeSet;

/** The face of the document, and that there is no more (LANGUAGE.md, rules 1, 2, 5 and 11). */
public final class FaceTests {
  private static final String FACE =
      "int setUp(int,int,int) | int put(int,int) | int setSide(int) | int play(int) | int back()"
      + " | int weigh(int,int,int) | boolean setQuiet(boolean) | int setSlots(int) | int empty()"
      + " | int columns() | int rows() | int at(int) | int side() | int played() | int moves()"
      + " | int from(int) | int to(int) | boolean takes(int) | boolean isLost() | long key()"
      + " | int evaluation() | int ways(int) | int value(int) | int valueOf(int,int)"
      + " | int search(int) | int bestFrom() | int bestTo() | int reached() | int nodes()"
      + " | int hits() | int cuts() | int killer(int,boolean) | int slots() | int entries()"
      + " | int ofSlot(int,int) | int known() | int teach(int,int) | int told() | int go(int)"
      + " | int playOut(int,int) | int pages() | double effort() | long digest()";

  public static void main(String[] args) {
    Class<?> face = KindlingTree.class;
    Set<String> due = new TreeSet<>(Arrays.asList(FACE.split(" \\| ")));
    Set<String> got = new TreeSet<>();
    Set<String> names = new TreeSet<>();
    for (Method method : face.getDeclaredMethods()) {
      if (Modifier.isPublic(method.getModifiers())) {
        got.add(signature(method));
        names.add(method.getName());
        Check.no(method + " is static", Modifier.isStatic(method.getModifiers()));
      }
    }
    Check.same("the public methods", got.toString(), due.toString());
    Check.yes("the class is final", Modifier.isFinal(face.getModifiers()));
    Check.same("public constructors", face.getConstructors().length, 1);
    Check.same("constructors", face.getDeclaredConstructors().length, 1);
    othersArePrivate(face, names);
    classesInside(face, names);
    Check.end("FaceTests");
  }

  private static String signature(Method method) {
    StringBuilder text = new StringBuilder(method.getReturnType().getName());
    text.append(' ').append(method.getName()).append('(');
    for (int i = 0; i < method.getParameterCount(); i++) {
      text.append(i == 0 ? "" : ",").append(method.getParameterTypes()[i].getName());
    }
    return text.append(')').toString();
  }

  private static void othersArePrivate(Class<?> face, Set<String> names) {
    for (Method method : face.getDeclaredMethods()) {
      if (!Modifier.isPublic(method.getModifiers())) {
        Check.yes(method + " is private", Modifier.isPrivate(method.getModifiers()));
        Check.no(method + " bears a public name", names.contains(method.getName()));
      }
    }
    for (Field field : face.getDeclaredFields()) {
      Check.yes(field + " is private", Modifier.isPrivate(field.getModifiers()));
    }
  }

  private static void classesInside(Class<?> face, Set<String> names) {
    Check.yes("twelve classes at most", face.getDeclaredClasses().length + 1 <= 12);
    fieldsOf(face);
    for (Class<?> inside : face.getDeclaredClasses()) {
      Check.yes(inside + " is static", Modifier.isStatic(inside.getModifiers()));
      Check.no(inside + " is public", Modifier.isPublic(inside.getModifiers()));
      Check.no(inside + " is protected", Modifier.isProtected(inside.getModifiers()));
      for (Method method : inside.getDeclaredMethods()) {
        Check.no(method + " bears a public name", names.contains(method.getName()));
        Check.yes(method + " has few parameters", method.getParameterCount() <= 7);
      }
      fieldsOf(inside);
    }
  }

  private static void fieldsOf(Class<?> type) {
    int count = 0;
    for (Field field : type.getDeclaredFields()) {
      if (Modifier.isStatic(field.getModifiers())) {
        Check.yes(field + " is final", Modifier.isFinal(field.getModifiers()));
      } else {
        count++;
      }
    }
    Check.yes(type + " has twenty fields at most", count <= 20);
  }
}
