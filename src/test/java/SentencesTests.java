import java.io.IOException;
import java.lang.reflect.Method;
import java.nio.charset.StandardCharsets;
import java.nio.file.Files;
import java.nio.file.Path;
import java.util.ArrayList;
import java.util.List;
import java.util.regex.Matcher;
import java.util.regex.Pattern;

/**
 * That the tests of single sentences hold what the document says: each quotes words that stand
 * where it tells, and each clause of what a method throws has a test. The document's path is the
 * second argument.
 */
public final class SentencesTests {
  private static final Class<?>[] TESTS = {
    TermsEdgeTests.class, SearchTermsEdgeTests.class, BoardEdgeTests.class,
    SettingsEdgeTests.class, AskBoardEdgeTests.class, SearchEdgeTests.class, TableEdgeTests.class,
    BookEdgeTests.class
  };
  private static final int PROMISES = 44;

  public static void main(String[] args) throws IOException {
    Path path = Path.of(args[1]);
    if (!Files.exists(path)) {
      System.out.println("SentencesTests: there is no document here to compare with");
      return;
    }
    String document = Files.readString(path, StandardCharsets.UTF_8);
    List<Holds> all = new ArrayList<>();
    for (Class<?> tests : TESTS) {
      for (Method test : Sentences.of(tests)) {
        all.add(test.getAnnotation(Holds.class));
      }
    }
    for (Holds holds : all) {
      Check.yes("\"" + holds.says() + "\" stands in " + holds.in(),
          section(document, holds.in()).contains(holds.says()));
    }
    for (int promise = 1; promise <= PROMISES; promise++) {
      clausesAreHeld(document, "Promise " + promise, all);
    }
    Check.end("SentencesTests");
  }

  /** A promise or a term, on one line. */
  private static String section(String document, String name) {
    String pattern = name.matches("Terms [1-5]")
        ? "(?s)\n" + name.substring(6) + " [A-Z]{4,}|\n" + name.substring(6) + " THE "
        : "\n## " + name + "\\b";
    Matcher start = Pattern.compile(pattern).matcher(document);
    if (!start.find()) {
      return "";
    }
    String end = name.startsWith("Terms ") ? "\n## |\n[1-5] (THE |[A-Z]{4,})" : "\n## ";
    Matcher next = Pattern.compile(end).matcher(document);
    int stop = next.find(start.end()) ? next.start() : document.length();
    return document.substring(start.start(), stop).replaceAll("\\s+", " ");
  }

  private static void clausesAreHeld(String document, String promise, List<Holds> all) {
    String text = section(document, promise);
    Check.yes(promise + " stands in the document", !text.isEmpty());
    boolean isHeld = false;
    for (Holds holds : all) {
      isHeld = isHeld || holds.in().equals(promise);
    }
    Check.yes(promise + " has a test of an edge", isHeld);
    Matcher thrown = Pattern.compile("Throws `\\w+` if (.*?)(?= Throws `| Returns |$)")
        .matcher(text);
    while (thrown.find()) {
      for (String clause : thrown.group(1).split(", (or )?")) {
        Check.yes(promise + ": \"" + clause.trim() + "\" has a test",
            isHeld(promise, clause.trim(), all));
      }
    }
  }

  private static boolean isHeld(String promise, String clause, List<Holds> all) {
    for (Holds holds : all) {
      if (holds.in().equals(promise) && holds.says().contains(clause)) {
        return true;
      }
    }
    return false;
  }
}
