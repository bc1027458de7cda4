/** Promises 7 to 10, a test for each sentence that names an edge, something empty or a refusal. */
public final class SettingsEdgeTests {
  private static final int FAR = Integer.MAX_VALUE;
  private static final int FAR_BELOW = Integer.MIN_VALUE;

  public static void main(String[] args) {
    Sentences.runAll(SettingsEdgeTests.class);
  }

  /** The side 0, which is to move, has two pawns, a row and a step less. */
  private static KindlingTree uneven() {
    KindlingTree tree = Boards.of(3, 3, "010 200 202", 0);
    tree.search(2);
    Check.yes("the table held something", tree.entries() > 0);
    return tree;
  }

  private static void weighRefuses(int m, int a, int f) {
    KindlingTree tree = uneven();
    Check.argument(tree, "weigh(" + m + ", " + a + ", " + f + ")", () -> tree.weigh(m, a, f));
    Check.same("evaluation() behind it", tree.evaluation(), -20 - 2 - 1);
  }

  // ---- Promise 7: weigh

  @Holds(in = "Promise 7", says = "m is not 0 to 50")
  static void weighPawnsOutOfBounds() {
    weighRefuses(-1, 2, 1);
    weighRefuses(51, 2, 1);
    weighRefuses(FAR, 2, 1);
    weighRefuses(FAR_BELOW, 2, 1);
    Check.same("weigh(0, 2, 1)", uneven().weigh(0, 2, 1), -2 - 1);
    Check.same("weigh(50, 2, 1)", uneven().weigh(50, 2, 1), -100 - 2 - 1);
  }

  @Holds(in = "Promise 7", says = "a is not 0 to 20")
  static void weighRowsOutOfBounds() {
    weighRefuses(10, -1, 1);
    weighRefuses(10, 21, 1);
    weighRefuses(10, FAR, 1);
    weighRefuses(10, FAR_BELOW, 1);
    Check.same("weigh(10, 0, 1)", uneven().weigh(10, 0, 1), -20 - 1);
    Check.same("weigh(10, 20, 1)", uneven().weigh(10, 20, 1), -20 - 20 - 1);
  }

  @Holds(in = "Promise 7", says = "f is not 0 to 10")
  static void weighStepsOutOfBounds() {
    weighRefuses(10, 2, -1);
    weighRefuses(10, 2, 11);
    weighRefuses(10, 2, FAR);
    weighRefuses(10, 2, FAR_BELOW);
    Check.same("weigh(10, 2, 0)", uneven().weigh(10, 2, 0), -20 - 2);
    Check.same("weigh(10, 2, 10)", uneven().weigh(10, 2, 10), -20 - 2 - 10);
  }

  @Holds(in = "Promise 7", says = "The TABLE is emptied")
  static void weighEmptiesTheTable() {
    KindlingTree tree = uneven();
    tree.weigh(10, 2, 1);
    Check.same("entries() behind the same weights", tree.entries(), 0);
    Check.same("known()", tree.known(), 0);
  }

  @Holds(in = "Promise 7", says = "Returns the EVALUATION then")
  static void weighTellsTheEvaluationOfALostPosition() {
    KindlingTree tree = Boards.of(3, 4, "110 000 000 012", 1);
    Check.yes("lost", tree.isLost());
    Check.same("weigh(1, 0, 0)", tree.weigh(1, 0, 0), 1 - 3);
    Check.same("weigh(0, 0, 0)", tree.weigh(0, 0, 0), 0);
  }

  // ---- Promise 8: setQuiet

  @Holds(in = "Promise 8", says = "The TABLE is emptied by that, if it changes")
  static void setQuietEmptiesTheTableIfItChanges() {
    KindlingTree tree = uneven();
    tree.setQuiet(false);
    Check.same("entries() behind a change to off", tree.entries(), 0);
    tree.search(2);
    Check.yes("the table held something", tree.entries() > 0);
    tree.setQuiet(true);
    Check.same("entries() behind a change to on", tree.entries(), 0);
  }

  @Holds(in = "Promise 8", says = "The TABLE is emptied by that, if it changes")
  static void setQuietKeepsTheTableIfNothingChanges() {
    KindlingTree tree = uneven();
    int entries = tree.entries();
    tree.setQuiet(true);
    Check.same("entries() when it was on", tree.entries(), entries);
    tree.setQuiet(false);
    tree.search(2);
    entries = tree.entries();
    Check.yes("the table held something", entries > 0);
    tree.setQuiet(false);
    Check.same("entries() when it was off", tree.entries(), entries);
  }

  @Holds(in = "Promise 8", says = "Returns whether it was")
  static void setQuietTellsWhetherItWasOn() {
    KindlingTree tree = new KindlingTree();
    Check.yes("setQuiet(true) on a new one", tree.setQuiet(true));
    Check.yes("setQuiet(false)", tree.setQuiet(false));
    Check.no("setQuiet(false) again", tree.setQuiet(false));
    Check.no("setQuiet(true)", tree.setQuiet(true));
  }

  // ---- Promise 9: setSlots

  @Holds(in = "Promise 9", says = "Throws `IllegalArgumentException` if slots is not 0 to 64")
  static void setSlotsTooFew() {
    KindlingTree tree = uneven();
    Check.argument(tree, "setSlots(-1)", () -> tree.setSlots(-1));
    Check.argument(tree, "setSlots(far below)", () -> tree.setSlots(FAR_BELOW));
    Check.same("setSlots(0)", tree.setSlots(0), 32);
    Check.same("slots()", tree.slots(), 0);
  }

  @Holds(in = "Promise 9", says = "Throws `IllegalArgumentException` if slots is not 0 to 64")
  static void setSlotsTooMany() {
    KindlingTree tree = uneven();
    Check.argument(tree, "setSlots(65)", () -> tree.setSlots(65));
    Check.argument(tree, "setSlots(far)", () -> tree.setSlots(FAR));
    Check.same("setSlots(64)", tree.setSlots(64), 32);
    Check.same("slots()", tree.slots(), 64);
  }

  @Holds(in = "Promise 9", says = "it is emptied")
  static void setSlotsEmptiesTheTable() {
    KindlingTree tree = uneven();
    tree.setSlots(32);
    Check.same("entries() behind as many slots", tree.entries(), 0);
    tree.search(2);
    tree.setSlots(64);
    Check.same("entries() behind more slots", tree.entries(), 0);
    tree.search(2);
    tree.setSlots(5);
    Check.same("entries() behind fewer slots", tree.entries(), 0);
    tree.search(2);
    tree.setSlots(0);
    Check.same("entries() without slots", tree.entries(), 0);
  }

  @Holds(in = "Promise 9", says = "Returns how many it had")
  static void setSlotsTellsHowManyItHad() {
    KindlingTree tree = new KindlingTree();
    Check.same("setSlots(0) on a new one", tree.setSlots(0), 32);
    Check.same("setSlots(64)", tree.setSlots(64), 0);
    Check.same("setSlots(64) again", tree.setSlots(64), 64);
  }

  // ---- Promise 10: empty

  @Holds(in = "Promise 10", says = "Returns how many entries it had")
  static void emptyOfAnEmptyTable() {
    KindlingTree tree = new KindlingTree();
    Check.same("empty() of a new one", tree.empty(), 0);
    tree.search(2);
    Check.same("empty()", tree.empty(), 3);
    Check.same("empty() again", tree.empty(), 0);
    tree.setSlots(0);
    tree.search(2);
    Check.same("empty() without slots", tree.empty(), 0);
  }

  @Holds(in = "Promise 10", says = "Returns how many entries it had")
  static void emptyOfAFullTable() {
    KindlingTree tree = new KindlingTree();
    tree.setSlots(3);
    tree.search(4);
    Check.same("entries()", tree.entries(), 3);
    Check.same("empty()", tree.empty(), 3);
    KindlingTree most = Boards.withAFullTable();
    Check.same("empty() of 64 slots", most.empty(), 64);
    Check.same("entries() behind it", most.entries(), 0);
  }

  @Holds(in = "Promise 10", says = "Empties the TABLE")
  static void emptyLeavesNothing() {
    KindlingTree tree = new KindlingTree();
    tree.search(4);
    tree.empty();
    Check.same("entries()", tree.entries(), 0);
    Check.same("known()", tree.known(), 0);
    Check.same("slots()", tree.slots(), 32);
    for (int slot = 0; slot < 32; slot++) {
      Check.same("ofSlot(" + slot + ", 3)", tree.ofSlot(slot, 3), -1);
    }
    tree.search(1);
    Check.same("hits() behind it", tree.hits(), 0);
  }
}
