/** Promises 7 to 10: weigh, setQuiet, setSlots, empty. */
public final class SettingsTests {
  public static void main(String[] args) {
    weighSets();
    weighEmpties();
    weighRefuses();
    setQuietSwitches();
    setQuietEmptiesIfItChanges();
    setSlotsSets();
    setSlotsRefuses();
    emptyEmpties();
    Check.end("SettingsTests");
  }

  /** The side 0, which is to move, has two pawns, a row and a step less. */
  private static KindlingTree uneven() {
    return Boards.of(3, 3, "010 200 202", 0);
  }

  private static void weighSets() {
    KindlingTree tree = uneven();
    Check.same("weigh(0, 0, 0)", tree.weigh(0, 0, 0), 0);
    Check.same("weigh(50, 0, 0)", tree.weigh(50, 0, 0), -100);
    Check.same("weigh(0, 20, 0)", tree.weigh(0, 20, 0), -20);
    Check.same("weigh(0, 0, 10)", tree.weigh(0, 0, 10), -10);
    Check.same("weigh(50, 20, 10)", tree.weigh(50, 20, 10), -130);
    Check.same("weigh(13, 5, 3)", tree.weigh(13, 5, 3), -34);
    Check.same("evaluation behind weigh", tree.evaluation(), -34);
    tree.play(0);
    tree.weigh(13, 5, 3);
    Check.same("played behind weigh", tree.played(), 1);
  }

  private static void weighEmpties() {
    KindlingTree tree = new KindlingTree();
    tree.search(3);
    Check.yes("the table held something", tree.entries() > 0);
    tree.weigh(10, 2, 1);
    Check.same("entries behind weigh", tree.entries(), 0);
    Check.same("known behind weigh", tree.known(), 0);
    Check.same("reached behind weigh", tree.reached(), 3);
  }

  private static void weighRefuses() {
    KindlingTree tree = uneven();
    tree.search(2);
    Check.yes("the table held something", tree.entries() > 0);
    int far = Integer.MAX_VALUE;
    int[][] bad = {
      {51, 5, 5}, {-1, 5, 5}, {5, 21, 5}, {5, -1, 5}, {5, 5, 11}, {5, 5, -1}, {far, 5, 5},
      {5, far, 5}, {5, 5, far}, {5, 5, Integer.MIN_VALUE}
    };
    for (int[] b : bad) {
      Check.argument(tree, "weigh(" + b[0] + ", " + b[1] + ", " + b[2] + ")",
          () -> tree.weigh(b[0], b[1], b[2]));
    }
  }

  private static void setQuietSwitches() {
    // the side 0 can take, and is taken then
    KindlingTree tree = Boards.of(3, 4, "010 010 200 222", 0);
    Check.yes("setQuiet(false) on a new one", tree.setQuiet(false));
    Check.same("value(0) without quiet search", tree.value(0), tree.evaluation());
    Check.no("setQuiet(true)", tree.setQuiet(true));
    PlainTree plain = Boards.plain(3, 4, Boards.fields(tree), 0);
    Check.same("value(0) with quiet search", tree.value(0), plain.value(0));
    Check.yes("setQuiet(true) again", tree.setQuiet(true));
    KindlingTree gain = Boards.of(3, 5, "100 000 100 020 222", 0);
    gain.setQuiet(false);
    int still = gain.search(1);
    gain.setQuiet(true);
    Check.yes("quiet search changes what a search tells", gain.search(1) != still);
  }

  private static void setQuietEmptiesIfItChanges() {
    KindlingTree tree = new KindlingTree();
    tree.search(3);
    int entries = tree.entries();
    Check.yes("the table held something", entries > 0);
    tree.setQuiet(true);
    Check.same("entries behind no change", tree.entries(), entries);
    tree.setQuiet(false);
    Check.same("entries behind a change to off", tree.entries(), 0);
    tree.search(3);
    entries = tree.entries();
    tree.setQuiet(false);
    Check.same("entries behind no change", tree.entries(), entries);
    tree.setQuiet(true);
    Check.same("entries behind a change to on", tree.entries(), 0);
  }

  private static void setSlotsSets() {
    KindlingTree tree = new KindlingTree();
    tree.search(3);
    Check.yes("the table held something", tree.entries() > 0);
    Check.same("setSlots(64)", tree.setSlots(64), 32);
    Check.same("entries behind setSlots", tree.entries(), 0);
    Check.same("slots", tree.slots(), 64);
    tree.search(3);
    Check.same("setSlots of as many", tree.setSlots(64), 64);
    Check.same("entries behind setSlots of as many", tree.entries(), 0);
    tree.search(3);
    Check.same("setSlots(0)", tree.setSlots(0), 64);
    Check.same("search without slots", tree.search(3), tree.value(3));
    Check.same("entries without slots", tree.entries(), 0);
    Check.same("known without slots", tree.known(), 0);
    Check.same("hits without slots", tree.hits(), 0);
    Check.yes("a best move without slots", tree.bestFrom() >= 0);
    Check.same("setSlots(1)", tree.setSlots(1), 0);
    tree.search(3);
    Check.same("entries of one slot", tree.entries(), 1);
    Check.same("depth in the one slot", tree.ofSlot(0, 0), 3);
    Check.same("setSlots(2)", tree.setSlots(2), 1);
    Check.same("entries behind setSlots", tree.entries(), 0);
  }

  private static void setSlotsRefuses() {
    KindlingTree tree = new KindlingTree();
    tree.search(3);
    Check.argument(tree, "setSlots(65)", () -> tree.setSlots(65));
    Check.argument(tree, "setSlots(-1)", () -> tree.setSlots(-1));
    Check.argument(tree, "setSlots(far)", () -> tree.setSlots(Integer.MAX_VALUE));
    Check.argument(tree, "setSlots(far below)", () -> tree.setSlots(Integer.MIN_VALUE));
  }

  private static void emptyEmpties() {
    KindlingTree tree = new KindlingTree();
    Check.same("empty() of an empty one", tree.empty(), 0);
    tree.search(3);
    int entries = tree.entries();
    Check.yes("the table held something", entries > 0);
    Check.same("empty()", tree.empty(), entries);
    Check.same("entries behind empty()", tree.entries(), 0);
    Check.same("known behind empty()", tree.known(), 0);
    Check.same("slots behind empty()", tree.slots(), 32);
    Check.same("reached behind empty()", tree.reached(), 3);
    tree.search(3);
    Check.same("entries behind the same search", tree.entries(), entries);
  }
}
