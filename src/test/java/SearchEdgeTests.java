/** Promises 24 to 33, a test for each sentence that names an edge, something empty or a refusal. */
public final class SearchEdgeTests {
  private static final int FAR = Integer.MAX_VALUE;
  private static final int FAR_BELOW = Integer.MIN_VALUE;

  public static void main(String[] args) {
    Sentences.runAll(SearchEdgeTests.class);
  }

  /** Lost for the side 1, which has a step. */
  private static KindlingTree lost() {
    return Boards.of(3, 4, "110 000 000 012", 1);
  }

  private static KindlingTree blocked() {
    return Boards.of(3, 4, "000 100 200 000", 0);
  }

  private static KindlingTree searched() {
    KindlingTree tree = new KindlingTree();
    tree.setUp(4, 4, 1);
    tree.search(3);
    return tree;
  }

  // ---- Promises 24 and 25: value, valueOf

  @Holds(in = "Promise 24", says = "Throws `IllegalArgumentException` if depth is not 0 to 3")
  static void valueTooDeep() {
    KindlingTree tree = searched();
    Check.argument(tree, "value(4)", () -> tree.value(4));
    Check.argument(tree, "value(far)", () -> tree.value(FAR));
    Check.same("value(3)", tree.value(3), 2);
    KindlingTree lost = lost();
    Check.argument(lost, "value(4) of a lost position", () -> lost.value(4));
  }

  @Holds(in = "Promise 24", says = "Throws `IllegalArgumentException` if depth is not 0 to 3")
  static void valueNotDeepEnough() {
    KindlingTree tree = searched();
    Check.argument(tree, "value(-1)", () -> tree.value(-1));
    Check.argument(tree, "value(far below)", () -> tree.value(FAR_BELOW));
    Check.same("value(0)", tree.value(0), 0);
  }

  @Holds(in = "Promise 24", says = "Returns the VALUE of the POSITION with this depth")
  static void valueOfALostPosition() {
    for (int depth = 0; depth <= 3; depth++) {
      Check.same("value(" + depth + ")", lost().value(depth), -1000 - depth);
    }
  }

  @Holds(in = "Promise 24", says = "TABLE, KILLERS and what is counted stay")
  static void valueKeepsWhatWasFound() {
    KindlingTree tree = searched();
    long before = tree.digest();
    for (int depth = 0; depth <= 3; depth++) {
      tree.value(depth);
      Check.same("digest() behind value(" + depth + ")", tree.digest(), before);
    }
    KindlingTree fresh = new KindlingTree();
    fresh.value(3);
    Check.same("entries()", fresh.entries(), 0);
    Check.same("nodes()", fresh.nodes(), 0);
    Check.same("cuts()", fresh.cuts(), 0);
    Check.same("killer(1, false)", fresh.killer(1, false), -1);
    Check.same("bestFrom()", fresh.bestFrom(), -1);
  }

  @Holds(in = "Promise 25", says = "Throws `IndexOutOfBoundsException` if there is no such MOVE")
  static void valueOfNoMove() {
    KindlingTree tree = searched();
    Check.index(tree, "valueOf(-1, 1)", () -> tree.valueOf(-1, 1));
    Check.index(tree, "valueOf(4, 1)", () -> tree.valueOf(4, 1));
    Check.index(tree, "valueOf(far, 1)", () -> tree.valueOf(FAR, 1));
    Check.index(tree, "valueOf(far below, 1)", () -> tree.valueOf(FAR_BELOW, 1));
    Check.same("valueOf(3, 1)", tree.valueOf(3, 1), 2);
    KindlingTree lost = lost();
    Check.index(lost, "valueOf(0, 1) of a lost position", () -> lost.valueOf(0, 1));
  }

  @Holds(in = "Promise 25", says = "Throws `IllegalArgumentException` if depth is not 1 to 3")
  static void valueOfTooDeep() {
    KindlingTree tree = searched();
    Check.argument(tree, "valueOf(0, 4)", () -> tree.valueOf(0, 4));
    Check.argument(tree, "valueOf(0, far)", () -> tree.valueOf(0, FAR));
    Check.same("valueOf(0, 3)", tree.valueOf(0, 3), 2);
  }

  @Holds(in = "Promise 25", says = "Throws `IllegalArgumentException` if depth is not 1 to 3")
  static void valueOfNotDeepEnough() {
    KindlingTree tree = searched();
    Check.argument(tree, "valueOf(0, 0)", () -> tree.valueOf(0, 0));
    Check.argument(tree, "valueOf(0, -1)", () -> tree.valueOf(0, -1));
    Check.argument(tree, "valueOf(0, far below)", () -> tree.valueOf(0, FAR_BELOW));
    Check.same("valueOf(0, 1)", tree.valueOf(0, 1), 2);
  }

  /** Behind 7-10 the other side has lost, with the depth less 1. */
  @Holds(in = "Promise 25",
      says = "Returns - VALUE of the POSITION behind it, with the depth less 1")
  static void valueOfALastMove() {
    KindlingTree tree = Boards.of(3, 4, "100 000 010 200", 0);
    Check.same("moves", Boards.moves(tree), "0-3 7x9 7-10");
    for (int depth = 1; depth <= 3; depth++) {
      Check.same("valueOf(2, " + depth + ")", tree.valueOf(2, depth), 1000 + depth - 1);
    }
  }

  @Holds(in = "Promise 25", says = "with the depth less 1, likewise")
  static void valueOfKeepsWhatWasFound() {
    KindlingTree tree = searched();
    long before = tree.digest();
    tree.valueOf(0, 1);
    tree.valueOf(3, 3);
    Check.same("digest() behind it", tree.digest(), before);
    KindlingTree fresh = new KindlingTree();
    fresh.valueOf(0, 3);
    Check.same("entries()", fresh.entries(), 0);
    Check.same("nodes()", fresh.nodes(), 0);
  }

  // ---- Promise 26: search

  @Holds(in = "Promise 26", says = "Throws `IllegalArgumentException` if depth is not 1 to 4")
  static void searchTooDeep() {
    KindlingTree tree = searched();
    Check.argument(tree, "search(5)", () -> tree.search(5));
    Check.argument(tree, "search(far)", () -> tree.search(FAR));
    Check.same("search(4)", tree.search(4), 0);
    Check.same("reached()", tree.reached(), 4);
  }

  @Holds(in = "Promise 26", says = "Throws `IllegalArgumentException` if depth is not 1 to 4")
  static void searchNotDeepEnough() {
    KindlingTree tree = searched();
    Check.argument(tree, "search(0)", () -> tree.search(0));
    Check.argument(tree, "search(-1)", () -> tree.search(-1));
    Check.argument(tree, "search(far below)", () -> tree.search(FAR_BELOW));
    Check.same("search(1)", tree.search(1), 2);
    Check.same("reached()", tree.reached(), 1);
  }

  @Holds(in = "Promise 26", says = "Throws `IllegalStateException` if the POSITION is LOST")
  static void searchOfALostPosition() {
    KindlingTree through = searched();
    Boards.lay(through, 3, 4, "110 000 000 012", 1);
    Check.state(through, "search(1) with a pawn in its last row", () -> through.search(1));
    Check.state(through, "search(4) with a pawn in its last row", () -> through.search(4));
    KindlingTree blocked = blocked();
    Check.state(blocked, "search(1) without steps", () -> blocked.search(1));
    KindlingTree none = Boards.of(3, 3, "000 000 000", 0);
    Check.state(none, "search(2) of an empty board", () -> none.search(2));
  }

  @Holds(in = "Promise 26", says = "Returns the number of the RESULT")
  static void searchOfAPositionWithOneMove() {
    KindlingTree tree = Boards.of(3, 4, "000 010 000 002", 1);
    Check.same("moves()", tree.moves(), 1);
    Check.same("search(1)", tree.search(1), -1000);
    Check.same("search(2)", tree.search(2), -1000);
    Check.same("search(4)", tree.search(4), -1002);
  }

  // ---- Promises 27 to 32: what is asked of the latest search

  @Holds(in = "Promise 27", says = "-1 ahead of the first one")
  static void bestFromAheadOfTheFirst() {
    KindlingTree tree = new KindlingTree();
    Check.same("bestFrom() of a new one", tree.bestFrom(), -1);
    refusedSearch(tree);
    Check.same("bestFrom() behind a refused search", tree.bestFrom(), -1);
    byTheBook(tree);
    Check.same("bestFrom() behind a move of the book", tree.bestFrom(), -1);
  }

  @Holds(in = "Promise 28", says = "-1 ahead of the first search")
  static void bestToAheadOfTheFirst() {
    KindlingTree tree = new KindlingTree();
    Check.same("bestTo() of a new one", tree.bestTo(), -1);
    refusedSearch(tree);
    Check.same("bestTo() behind a refused search", tree.bestTo(), -1);
    byTheBook(tree);
    Check.same("bestTo() behind a move of the book", tree.bestTo(), -1);
  }

  @Holds(in = "Promise 29", says = "0 ahead of the first one")
  static void reachedAheadOfTheFirst() {
    KindlingTree tree = new KindlingTree();
    Check.same("reached() of a new one", tree.reached(), 0);
    refusedSearch(tree);
    Check.same("reached() behind a refused search", tree.reached(), 0);
    byTheBook(tree);
    Check.same("reached() behind a move of the book", tree.reached(), 0);
  }

  @Holds(in = "Promise 30", says = "0 ahead of the first one")
  static void nodesAheadOfTheFirst() {
    KindlingTree tree = new KindlingTree();
    Check.same("nodes() of a new one", tree.nodes(), 0);
    refusedSearch(tree);
    tree.value(3);
    Check.same("nodes() behind a refused search", tree.nodes(), 0);
    byTheBook(tree);
    Check.same("nodes() behind a move of the book", tree.nodes(), 0);
  }

  @Holds(in = "Promise 31", says = "Returns its HITS; likewise")
  static void hitsAheadOfTheFirst() {
    KindlingTree tree = new KindlingTree();
    Check.same("hits() of a new one", tree.hits(), 0);
    tree.search(1);
    Check.same("hits() behind the first", tree.hits(), 0);
    tree.search(1);
    Check.same("hits() behind the second", tree.hits(), 1);
  }

  @Holds(in = "Promise 32", says = "without those of QUIET; likewise")
  static void cutsAheadOfTheFirst() {
    KindlingTree tree = new KindlingTree();
    Check.same("cuts() of a new one", tree.cuts(), 0);
    tree.value(3);
    Check.same("cuts() behind value(3)", tree.cuts(), 0);
  }

  /** QUIET stops early behind 1-4 and 2-5; with the depth 2 a cut behind 2-5 is the only one. */
  @Holds(in = "Promise 32", says = "Returns its CUTS, without those of QUIET")
  static void cutsWithoutThoseOfQuiet() {
    KindlingTree tree = new KindlingTree();
    tree.search(1);
    Check.same("cuts()", tree.cuts(), 0);
    tree.search(2);
    Check.same("cuts()", tree.cuts(), 1);
  }

  private static void refusedSearch(KindlingTree tree) {
    Check.argument(tree, "search(5)", () -> tree.search(5));
  }

  private static void byTheBook(KindlingTree tree) {
    tree.teach(1, 1);
    tree.go(4);
  }

  @Holds(in = "Promise 27", says = "the BEST MOVE of the RESULT of the latest search")
  static void bestFromOfTheLatestSearch() {
    KindlingTree tree = Boards.of(3, 4, "000 100 000 002", 0);
    tree.search(4);
    Check.same("bestFrom()", tree.bestFrom(), 3);
    tree.play(0);
    Check.same("bestFrom() behind play()", tree.bestFrom(), 3);
    tree.search(1);
    Check.same("bestFrom() of the latest one", tree.bestFrom(), 11);
  }

  @Holds(in = "Promise 28", says = "Returns the FIELD to which it goes")
  static void bestToTheLastField() {
    KindlingTree tree = Boards.of(5, 5, "10000 00000 00000 20001 00000", 0);
    tree.search(1);
    Check.same("bestFrom()", tree.bestFrom(), 19);
    Check.same("bestTo()", tree.bestTo(), 24);
    Boards.lay(tree, 5, 5, "00000 20001 00000 00000 00002", 1);
    tree.search(1);
    Check.same("bestFrom()", tree.bestFrom(), 5);
    Check.same("bestTo()", tree.bestTo(), 0);
  }

  @Holds(in = "Promise 29", says = "Returns to which depth the latest search came")
  static void reachedLessThanAsked() {
    KindlingTree tree = Boards.of(4, 4, "1101 0111 2222 0220", 0);
    tree.search(4);
    Check.same("reached()", tree.reached(), 3);
    tree.search(1);
    Check.same("reached() of the latest one", tree.reached(), 1);
  }

  @Holds(in = "Promise 30", says = "Returns the NODES of the latest search")
  static void nodesOfTheLatestAlone() {
    KindlingTree tree = new KindlingTree();
    tree.search(1);
    Check.same("nodes()", tree.nodes(), 6);
    tree.search(1);
    Check.same("nodes() of a hit alone", tree.nodes(), 1);
  }

  // ---- Promise 33: killer

  @Holds(in = "Promise 33", says = "if depth is not 1 to 4")
  static void killerOfNoDepth() {
    KindlingTree tree = searched();
    int[] none = {0, 5, -1, 6, 100, FAR, FAR_BELOW};
    for (int depth : none) {
      Check.same("killer(" + depth + ", false)", tree.killer(depth, false), -1);
      Check.same("killer(" + depth + ", true)", tree.killer(depth, true), -1);
    }
  }

  @Holds(in = "Promise 33", says = "-1 without one")
  static void killerThatIsNone() {
    KindlingTree fresh = new KindlingTree();
    KindlingTree tree = searched();
    for (int depth = 1; depth <= 4; depth++) {
      Check.same("killer(" + depth + ", false) of a new one", fresh.killer(depth, false), -1);
      Check.same("killer(" + depth + ", true) of a new one", fresh.killer(depth, true), -1);
    }
    Check.same("killer(2, true) beside one newer", tree.killer(2, true), -1);
    Check.same("killer(4, false)", tree.killer(4, false), -1);
  }

  @Holds(in = "Promise 33", says = "from * 100 + to")
  static void killerFromTheField0() {
    // the answer 0-3 to 13-10 is as good as that to 14-11: it cuts
    KindlingTree tree = Boards.of(3, 5, "100 000 000 000 022", 1);
    tree.search(2);
    Check.same("killer(1, false)", tree.killer(1, false), 3);
  }

  @Holds(in = "Promise 33", says = "as the latest search left it")
  static void killersStayTillTheNextSearch() {
    KindlingTree tree = searched();
    tree.play(0);
    tree.empty();
    tree.value(3);
    Check.same("killer(1, false)", tree.killer(1, false), 206);
    tree.search(1);
    Check.same("killer(1, false) behind another one", tree.killer(1, false), -1);
    Check.same("killer(1, true) behind another one", tree.killer(1, true), -1);
  }
}
