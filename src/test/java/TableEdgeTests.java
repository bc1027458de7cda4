/** Promises 34 to 37, a test for each sentence that names an edge, something empty or a refusal. */
public final class TableEdgeTests {
  private static final int FAR = Integer.MAX_VALUE;
  private static final int FAR_BELOW = Integer.MIN_VALUE;

  public static void main(String[] args) {
    Sentences.runAll(TableEdgeTests.class);
  }

  private static KindlingTree searched(int slots) {
    KindlingTree tree = new KindlingTree();
    tree.setSlots(slots);
    tree.search(3);
    return tree;
  }

  // ---- Promises 34 and 35: slots, entries

  @Holds(in = "Promise 34", says = "Returns how many SLOTS it has")
  static void slotsOfTheFewestAndTheMost() {
    Check.same("slots() of a new one", new KindlingTree().slots(), 32);
    Check.same("slots()", searched(0).slots(), 0);
    Check.same("slots()", searched(64).slots(), 64);
  }

  @Holds(in = "Promise 35", says = "Returns how many entries it has")
  static void entriesOfAnEmptyTable() {
    Check.same("entries() of a new one", new KindlingTree().entries(), 0);
    Check.same("entries() without slots", searched(0).entries(), 0);
  }

  @Holds(in = "Promise 35", says = "Returns how many entries it has")
  static void entriesOfAFullTable() {
    for (int slots = 1; slots <= 4; slots++) {
      KindlingTree tree = new KindlingTree();
      tree.setSlots(slots);
      tree.search(4);
      Check.same("entries()", tree.entries(), slots);
      tree.search(3);
      Check.same("entries() behind another search", tree.entries(), slots);
    }
    KindlingTree most = Boards.withAFullTable();
    for (int slot = 0; slot < 64; slot++) {
      Check.yes("an entry in " + slot, most.ofSlot(slot, 0) > 0);
    }
    most.search(4);
    Check.same("entries() behind another search", most.entries(), 64);
  }

  // ---- Promise 36: ofSlot

  @Holds(in = "Promise 36", says = "Throws `IndexOutOfBoundsException` if there is no such SLOT")
  static void ofSlotThatIsNone() {
    KindlingTree tree = searched(32);
    Check.index(tree, "ofSlot(-1, 0)", () -> tree.ofSlot(-1, 0));
    Check.index(tree, "ofSlot(32, 0)", () -> tree.ofSlot(32, 0));
    Check.index(tree, "ofSlot(far, 0)", () -> tree.ofSlot(FAR, 0));
    Check.index(tree, "ofSlot(far below, 0)", () -> tree.ofSlot(FAR_BELOW, 0));
    Check.same("ofSlot(0, 0)", tree.ofSlot(0, 0), -1);
    Check.same("ofSlot(31, 0)", tree.ofSlot(31, 0), -1);
  }

  @Holds(in = "Promise 36", says = "Throws `IndexOutOfBoundsException` if there is no such SLOT")
  static void ofSlotWithoutSlots() {
    KindlingTree tree = searched(0);
    Check.index(tree, "ofSlot(0, 0)", () -> tree.ofSlot(0, 0));
  }

  @Holds(in = "Promise 36", says = "Throws `IndexOutOfBoundsException` if there is no such SLOT")
  static void ofSlotOfALargerTable() {
    KindlingTree tree = searched(64);
    Check.same("ofSlot(63, 0)", tree.ofSlot(63, 0), -1);
    Check.index(tree, "ofSlot(64, 0)", () -> tree.ofSlot(64, 0));
    tree.setSlots(5);
    Check.index(tree, "ofSlot(5, 0)", () -> tree.ofSlot(5, 0));
    Check.index(tree, "ofSlot(63, 0)", () -> tree.ofSlot(63, 0));
  }

  @Holds(in = "Promise 36", says = "Throws `IllegalArgumentException` if what is not 0 to 3")
  static void ofSlotOfNothingKnown() {
    KindlingTree tree = searched(32);
    Check.argument(tree, "ofSlot(30, -1)", () -> tree.ofSlot(30, -1));
    Check.argument(tree, "ofSlot(30, 4)", () -> tree.ofSlot(30, 4));
    Check.argument(tree, "ofSlot(30, far)", () -> tree.ofSlot(30, FAR));
    Check.argument(tree, "ofSlot(30, far below)", () -> tree.ofSlot(30, FAR_BELOW));
    Check.argument(tree, "ofSlot(0, 4) without an entry", () -> tree.ofSlot(0, 4));
    Check.same("ofSlot(30, 0)", tree.ofSlot(30, 0), 3);
    Check.same("ofSlot(30, 3)", tree.ofSlot(30, 3), 104);
  }

  @Holds(in = "Promise 36", says = "-1 if there is no entry")
  static void ofSlotWithoutAnEntry() {
    KindlingTree tree = new KindlingTree();
    tree.setUp(4, 4, 1);
    tree.search(3);
    tree.empty();
    for (int slot = 0; slot < 32; slot++) {
      for (int what = 0; what <= 3; what++) {
        Check.same("ofSlot(" + slot + ", " + what + ")", tree.ofSlot(slot, what), -1);
      }
    }
  }

  @Holds(in = "Promise 36",
      says = "0 its depth, 1 its number, 2 0 if it is EXACT, 1 AT LEAST, 2 AT MOST, 3 its MOVE")
  static void ofSlotOfEachKind() {
    KindlingTree tree = searched(32);
    entry(tree, 30, 3, 2, 0, 104);
    entry(tree, 18, 1, 1000, 1, 406);
    entry(tree, 12, 1, 2, 2, 105);
  }

  private static void entry(KindlingTree tree, int slot, int... due) {
    for (int what = 0; what <= 3; what++) {
      Check.same("ofSlot(" + slot + ", " + what + ")", tree.ofSlot(slot, what), due[what]);
    }
  }

  // ---- Promise 37: known

  @Holds(in = "Promise 37", says = "0 without one")
  static void knownWithoutAnEntry() {
    KindlingTree tree = new KindlingTree();
    Check.same("known() of a new one", tree.known(), 0);
    tree.setSlots(0);
    tree.search(3);
    Check.same("known() without slots", tree.known(), 0);
  }

  @Holds(in = "Promise 37", says = "the depth of the entry for the POSITION")
  static void knownWithTheEntryOfAnotherPosition() {
    KindlingTree tree = searched(1);
    Check.same("known()", tree.known(), 3);
    tree.setSide(1);
    Check.same("known() of another one in the slot", tree.known(), 0);
  }

  @Holds(in = "Promise 37", says = "the depth of the entry for the POSITION")
  static void knownOfEachDepth() {
    for (int depth = 1; depth <= 4; depth++) {
      KindlingTree tree = new KindlingTree();
      tree.search(depth);
      Check.same("known()", tree.known(), depth);
    }
  }

  @Holds(in = "Promise 37", says = "0 without one")
  static void knownOfALostPosition() {
    KindlingTree tree = Boards.of(3, 3, "000 010 202", 0);
    tree.search(4);
    Check.same("known()", tree.known(), 4);
    Boards.play(tree, 4, 7);
    Check.yes("lost", tree.isLost());
    Check.same("known()", tree.known(), 0);
  }
}
