/** Counts what was checked, and prints what is not as it is due. */
final class Check {
  private static int checks;
  private static int wrong;
  private static String sentence = "";

  private Check() {}

  /** What is reported from now on is said to break this sentence. */
  static void about(String itsSentence) {
    sentence = itsSentence;
  }

  static int count() {
    return checks;
  }

  static void same(String what, long got, long due) {
    checks++;
    if (got != due) {
      report(what + " answered " + got + ", due is " + due);
    }
  }

  static void same(String what, double got, double due) {
    checks++;
    if (got != due) {
      report(what + " answered " + got + ", due is " + due);
    }
  }

  static void same(String what, String got, String due) {
    checks++;
    if (!got.equals(due)) {
      report(what + " answered " + got + ", due is " + due);
    }
  }

  static void yes(String what, boolean got) {
    checks++;
    if (!got) {
      report(what + " does not hold");
    }
  }

  static void no(String what, boolean got) {
    yes("not " + what, !got);
  }

  private static void report(String text) {
    wrong++;
    if (wrong <= 50) {
      System.out.println(sentence.isEmpty() ? text : sentence + ": " + text);
    }
  }

  /** The simple name of what a call throws, or an empty text. */
  static String thrownBy(Runnable call) {
    try {
      call.run();
      return "";
    } catch (RuntimeException e) {
      return e.getClass().getSimpleName();
    }
  }

  /** The call throws just this, and nothing that can be asked is another one behind it. */
  static void refuses(KindlingTree tree, String what, String exception, Runnable call) {
    String before = Asked.of(tree);
    same(what, thrownBy(call), exception);
    same("what stands behind " + what, Asked.of(tree), before);
  }

  static void index(KindlingTree tree, String what, Runnable call) {
    refuses(tree, what, "IndexOutOfBoundsException", call);
  }

  static void argument(KindlingTree tree, String what, Runnable call) {
    refuses(tree, what, "IllegalArgumentException", call);
  }

  static void state(KindlingTree tree, String what, Runnable call) {
    refuses(tree, what, "IllegalStateException", call);
  }

  static void end(String name) {
    System.out.println(name + ": " + checks + " checks, " + wrong + " wrong");
    if (wrong != 0 || checks == 0) {
      System.exit(1);
    }
  }
}
