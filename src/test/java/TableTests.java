/** Promises 34 to 37: slots, entries, ofSlot, known. */
public final class TableTests {
  public static void main(String[] args) {
    slots();
    oneEntry();
    allEntriesOfASearch();
    entriesTakeEachOthersPlace();
    ofSlotRefuses();
    known();
    Check.end("TableTests");
  }

  private static void slots() {
    KindlingTree tree = new KindlingTree();
    Check.same("slots() of a new one", tree.slots(), 32);
    for (int slots = 0; slots <= 64; slots++) {
      tree.setSlots(slots);
      Check.same("slots()", tree.slots(), slots);
    }
  }

  /** The key 19006 is put into the slot 19006 % 32 = 30. */
  private static void oneEntry() {
    KindlingTree tree = new KindlingTree();
    tree.search(1);
    Check.same("entries()", tree.entries(), 1);
    entry(tree, 30, 1, 2, 0, 3);
    entry(tree, 29, -1, -1, -1, -1);
    tree.setSlots(64);
    tree.search(1);
    entry(tree, 19006 % 64, 1, 2, 0, 3);
    tree.setSlots(7);
    tree.search(1);
    entry(tree, 19006 % 7, 1, 2, 0, 3);
  }

  private static void entry(KindlingTree tree, int slot, int depth, int number, int kind,
      int move) {
    Check.same("depth in " + slot, tree.ofSlot(slot, 0), depth);
    Check.same("number in " + slot, tree.ofSlot(slot, 1), number);
    Check.same("kind in " + slot, tree.ofSlot(slot, 2), kind);
    Check.same("move in " + slot, tree.ofSlot(slot, 3), move);
  }

  /**
   * Behind search(2) of a new one there are entries of the root and of what is behind 0-3 and
   * 1-4 (both of depth 1); that behind 2-5 was put in the place of the first.
   */
  private static void allEntriesOfASearch() {
    KindlingTree tree = new KindlingTree();
    tree.search(2);
    Check.same("entries()", tree.entries(), 3);
    entry(tree, 3, 1, -2, 1, 705);
    entry(tree, 11, 1, -2, 0, 604);
    entry(tree, 30, 2, 2, 0, 104);
    tree.search(3);
    Check.same("entries()", tree.entries(), 7);
    entry(tree, 12, 1, 2, 2, 105);
    entry(tree, 18, 1, 1000, 1, 406);
    entry(tree, 30, 3, 2, 0, 104);
  }

  private static void entriesTakeEachOthersPlace() {
    KindlingTree tree = new KindlingTree();
    tree.setSlots(1);
    tree.search(3);
    Check.same("entries() of one slot", tree.entries(), 1);
    Check.same("known()", tree.known(), 3);
    tree.play(0);
    Check.same("known() of another position", tree.known(), 0);
    tree.search(1);
    Check.same("known()", tree.known(), 1);
    tree.back();
    Check.same("known() of the one that gave place", tree.known(), 0);
    // a lower depth takes the place of a higher one
    tree.setSlots(32);
    tree.search(3);
    tree.search(1);
    Check.same("known() behind a lower depth", tree.known(), 1);
  }

  private static void ofSlotRefuses() {
    KindlingTree tree = new KindlingTree();
    tree.search(2);
    Check.index(tree, "ofSlot(32, 0)", () -> tree.ofSlot(32, 0));
    Check.index(tree, "ofSlot(-1, 0)", () -> tree.ofSlot(-1, 0));
    Check.index(tree, "ofSlot(far, 0)", () -> tree.ofSlot(Integer.MAX_VALUE, 0));
    Check.index(tree, "ofSlot(32, 4): the slot first", () -> tree.ofSlot(32, 4));
    Check.argument(tree, "ofSlot(0, 4)", () -> tree.ofSlot(0, 4));
    Check.argument(tree, "ofSlot(30, 4)", () -> tree.ofSlot(30, 4));
    Check.argument(tree, "ofSlot(30, -1)", () -> tree.ofSlot(30, -1));
    Check.argument(tree, "ofSlot(30, far)", () -> tree.ofSlot(30, Integer.MAX_VALUE));
    KindlingTree none = new KindlingTree();
    none.setSlots(0);
    Check.index(none, "ofSlot(0, 0) without slots", () -> none.ofSlot(0, 0));
    KindlingTree most = new KindlingTree();
    most.setSlots(64);
    Check.same("ofSlot(63, 3)", most.ofSlot(63, 3), -1);
    Check.index(most, "ofSlot(64, 0)", () -> most.ofSlot(64, 0));
  }

  private static void known() {
    KindlingTree tree = new KindlingTree();
    Check.same("known() of a new one", tree.known(), 0);
    tree.search(4);
    Check.same("known()", tree.known(), 4);
    tree.play(1);
    Check.same("known() behind a move", tree.known(), 3);
    tree.back();
    tree.setSide(1);
    Check.same("known() of the other side", tree.known(), 0);
    tree.setSide(0);
    Check.same("known() again", tree.known(), 4);
  }
}
