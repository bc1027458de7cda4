import java.io.IOException;
import java.nio.charset.StandardCharsets;
import java.nio.file.Files;
import java.nio.file.Path;
import java.util.regex.Matcher;
import java.util.regex.Pattern;

/** What can be read of LANGUAGE.md in the text of the class; its path is the argument. */
public final class RulesTests {
  private static final String[] FORBIDDEN = {
    "\\bimport\\b", "\\bpackage\\b", "->", "::", "\\bfinally\\b", "\\bsynchronized\\b",
    "\\bassert\\b", "\\btry\\b", "\\bcatch\\b", "Exact\\(", "\\bgetMessage\\b", "\\bequals\\(",
    "\\bhashCode\\b", "\\btoString\\b", "\\bNaN\\b", "\\bObject\\b", "\\bRandom\\b",
    "\\bThread\\b", "\\bSystem\\.(?!arraycopy)", "\\bMath\\.(?!max\\(|min\\(|abs\\()",
    "\\bprotected\\b", "\\bstatic\\s*\\{", "\"\\s*\\+|\\+\\s*\"", "\\bextends\\b", "@"
  };

  public static void main(String[] args) throws IOException {
    String source = Files.readString(Path.of(args[0]), StandardCharsets.UTF_8);
    String code = source.replaceAll("(?s)/\\*.*?\\*/", "").replaceAll("//[^\n]*", "");
    for (String forbidden : FORBIDDEN) {
      Matcher matcher = Pattern.compile(forbidden).matcher(code);
      Check.no(forbidden + " stands in the class", matcher.find());
    }
    Check.yes("all signs are 1 to 127", source.chars().allMatch(c -> c >= 1 && c <= 127));
    exceptions(code);
    methodsAreShort(code);
    newStandsInConstructors(code);
    Check.end("RulesTests");
  }

  private static void exceptions(String code) {
    Matcher thrown = Pattern.compile("\\bthrow\\b[^;]*;").matcher(code);
    Pattern form = Pattern.compile("throw new (IllegalStateException|IllegalArgumentException"
        + "|IndexOutOfBoundsException)\\(\"[^\"]*\"\\);");
    int count = 0;
    while (thrown.find()) {
      count++;
      Check.yes(thrown.group() + " has its form", form.matcher(thrown.group()).matches());
    }
    Check.yes("something is thrown", count > 0);
  }

  /** A method stands between a line that opens it, two or four deep, and the one that closes it. */
  private static void methodsAreShort(String code) {
    String[] lines = code.split("\n");
    Pattern opens = Pattern.compile("( {2}| {4})[^ ].*\\) (throws .*)?\\{");
    int count = 0;
    for (int i = 0; i < lines.length; i++) {
      Matcher matcher = opens.matcher(lines[i]);
      if (matcher.matches()) {
        int end = i;
        while (end < lines.length && !lines[end].equals(matcher.group(1) + "}")) {
          end++;
        }
        count++;
        Check.yes(lines[i].trim() + " is short", end - i < 60);
      }
    }
    Check.yes("methods were read", count > 80);
  }

  /** Only constructors make objects, and throw statements make exceptions. */
  private static void newStandsInConstructors(String code) {
    String[] lines = code.split("\n");
    Pattern constructor = Pattern.compile(" {2,4}(public )?[A-Z][A-Za-z]*\\(.*\\) \\{");
    boolean isInside = false;
    for (String line : lines) {
      if (constructor.matcher(line).matches()) {
        isInside = true;
      } else if (line.equals("  }") || line.equals("    }")) {
        isInside = false;
      } else if (line.contains("new ") && !line.contains("throw new")) {
        Check.yes(line.trim() + " stands in a constructor", isInside);
      }
    }
  }
}
