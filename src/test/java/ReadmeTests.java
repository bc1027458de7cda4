import java.io.IOException;
import java.lang.reflect.Method;
import java.lang.reflect.Modifier;
import java.nio.charset.StandardCharsets;
import java.nio.file.Files;
import java.nio.file.Path;
import java.util.regex.Matcher;
import java.util.regex.Pattern;

/**
 * That README.md tells each call of the face with the exceptions that it declares, and that its
 * examples answer as they say. README's path is the third argument.
 */
public final class ReadmeTests {
  public static void main(String[] args) throws IOException {
    String page = Files.readString(Path.of(args[2]), StandardCharsets.UTF_8);
    for (Method method : KindlingTree.class.getDeclaredMethods()) {
      if (Modifier.isPublic(method.getModifiers())) {
        hasARow(page, method);
      }
    }
    firstExample(page);
    secondExample(page);
    Check.end("ReadmeTests");
  }

  /** The row of a call names it ahead of its second bar, and its exceptions, in their order. */
  private static void hasARow(String page, Method method) {
    Pattern call = Pattern.compile("^\\|[^|]*`" + method.getName() + "\\(([^)]*)\\)`");
    String row = "";
    int parameters = -1;
    int rows = 0;
    for (String line : page.split("\n")) {
      Matcher matcher = call.matcher(line);
      if (matcher.find()) {
        rows++;
        row = line;
        parameters = matcher.group(1).isEmpty() ? 0 : matcher.group(1).split(", ").length;
      }
    }
    Check.same("rows of " + method.getName() + " in README.md", rows, 1);
    Check.same("parameters of " + method.getName() + " in README.md", parameters,
        method.getParameterCount());
    StringBuilder due = new StringBuilder();
    for (Class<?> exception : method.getExceptionTypes()) {
      due.append(exception.getSimpleName()).append(' ');
    }
    StringBuilder got = new StringBuilder();
    Matcher exception = Pattern.compile("`(\\w+Exception)`").matcher(row);
    while (exception.find()) {
      got.append(exception.group(1)).append(' ');
    }
    Check.same("exceptions of " + method.getName() + " in README.md", got.toString(),
        due.toString());
  }

  private static void says(String page, String line) {
    Check.yes("README.md says " + line, page.contains(line));
  }

  private static void firstExample(String page) {
    says(page, "KindlingTree tree = new KindlingTree();");
    KindlingTree tree = new KindlingTree();
    says(page, "tree.setUp(4, 4, 1);");
    Check.same("setUp(4, 4, 1)", tree.setUp(4, 4, 1), 8);
    says(page, "int number = tree.search(3);");
    Check.same("search(3)", tree.search(3), 2);
    Check.same("bestFrom()", tree.bestFrom(), 0);
    Check.same("bestTo()", tree.bestTo(), 4);
    says(page, "int move = tree.go(3);");
    Check.same("go(3)", tree.go(3), 0);
    Check.same("back()", tree.back(), 0);
    says(page, "tree.teach(1, 50);");
    tree.teach(1, 50);
    Check.same("told()", tree.told(), 1);
    says(page, "int played = tree.playOut(3, 10);");
    Check.same("playOut(3, 10)", tree.playOut(3, 10), 8);
    Check.yes("isLost()", tree.isLost());
  }

  private static void secondExample(String page) {
    KindlingTree tree = new KindlingTree();
    says(page, "tree.play(3);");
    Check.index(tree, "play(3)", () -> tree.play(3));
    says(page, "tree.play(2);");
    Check.same("play(2)", tree.play(2), 0);
  }
}
