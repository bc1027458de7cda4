/** Promises 38 to 43: teach, told, go, playOut, pages, effort. */
public final class BookTests {
  public static void main(String[] args) {
    teachAdds();
    teachRefuses();
    teachIsFull();
    toldChooses();
    toldGoesByKeys();
    goByTheBook();
    goBySearch();
    goRefuses();
    playOutPlays();
    playOutRefuses();
    effort();
    Check.end("BookTests");
  }

  private static void teachAdds() {
    KindlingTree tree = new KindlingTree();
    Check.same("pages() of a new one", tree.pages(), 0);
    Check.same("teach(2, 99)", tree.teach(2, 99), 1);
    Check.same("told()", tree.told(), 2);
    Check.same("teach(0, 1)", tree.teach(0, 1), 2);
    Check.same("told()", tree.told(), 2);
    Check.same("teach(2, 1) in place of 99", tree.teach(2, 1), 2);
    Check.same("told() of equal weights", tree.told(), 0);
    Check.same("teach(2, 2) in place of 1", tree.teach(2, 2), 2);
    Check.same("told()", tree.told(), 2);
    Check.same("pages()", tree.pages(), 2);
    tree.play(0);
    Check.same("teach() of another position", tree.teach(0, 50), 3);
    tree.back();
    Check.same("told()", tree.told(), 2);
    Check.same("pages()", tree.pages(), 3);
  }

  private static void teachRefuses() {
    KindlingTree tree = new KindlingTree();
    tree.teach(1, 7);
    Check.index(tree, "teach(3, 1)", () -> tree.teach(3, 1));
    Check.index(tree, "teach(-1, 1)", () -> tree.teach(-1, 1));
    Check.index(tree, "teach(far, 1)", () -> tree.teach(Integer.MAX_VALUE, 1));
    Check.index(tree, "teach(3, 0): the move first", () -> tree.teach(3, 0));
    Check.argument(tree, "teach(0, 0)", () -> tree.teach(0, 0));
    Check.argument(tree, "teach(0, 100)", () -> tree.teach(0, 100));
    Check.argument(tree, "teach(1, 100)", () -> tree.teach(1, 100));
    Check.argument(tree, "teach(0, far)", () -> tree.teach(0, Integer.MIN_VALUE));
    KindlingTree lost = Boards.of(3, 4, "110 000 000 012", 1);
    Check.index(lost, "teach(0, 1) of a lost position", () -> lost.teach(0, 1));
  }

  private static void teachIsFull() {
    KindlingTree tree = new KindlingTree();
    int count = 0;
    for (int i = 0; i < 6; i++) {
      // another position each time, with five moves
      Boards.lay(tree, 5, 5, "11111 00000 00000 00000 00000", 0);
      tree.put(15 + i, 2);
      for (int move = 0; move < 5; move++) {
        count++;
        Check.same("teach()", tree.teach(move, 1 + move), count);
      }
      Check.same("told()", tree.told(), 4);
    }
    Check.same("pages()", tree.pages(), 30);
    Check.same("teach() of a known one when full", tree.teach(0, 60), 30);
    Check.same("told()", tree.told(), 0);
    tree.setSide(1);
    Check.same("moves", tree.moves(), 1);
    Check.state(tree, "teach() of a 31st", () -> tree.teach(0, 5));
    Check.argument(tree, "teach() of a 31st: the weight first", () -> tree.teach(0, 100));
    Check.index(tree, "teach() of a 31st: the move first", () -> tree.teach(1, 100));
    Check.same("told() of a full book", tree.told(), -1);
  }

  private static void toldChooses() {
    KindlingTree tree = new KindlingTree();
    tree.teach(2, 5);
    tree.teach(1, 5);
    Check.same("told() of equal weights, the smallest number", tree.told(), 1);
    tree.teach(0, 4);
    Check.same("told() with a lower weight", tree.told(), 1);
    tree.teach(2, 6);
    Check.same("told() with a greater weight", tree.told(), 2);
    tree.setSide(1);
    Check.same("told() of the other side", tree.told(), -1);
  }

  /** A key tells nothing of the board: one entry may count on several, or be no move there. */
  private static void toldGoesByKeys() {
    KindlingTree tree = Boards.of(3, 3, "000 001 200", 0);
    long key = tree.key();
    Check.same("moves", Boards.moves(tree), "5-8");
    tree.teach(0, 9);
    // the same key, as fields ahead of the first pawn do not count
    Boards.lay(tree, 3, 4, "000 000 001 200", 0);
    Check.same("key()", tree.key(), key);
    Check.same("moves", Boards.moves(tree), "8-11");
    Check.same("told() where 5-8 is no move", tree.told(), -1);
    Check.same("teach(0, 3)", tree.teach(0, 3), 2);
    Check.same("told()", tree.told(), 0);
    Boards.lay(tree, 3, 3, "000 001 200", 0);
    Check.same("told() on the first board", tree.told(), 0);
    // lost by the last row: nothing is told whatever the book holds
    KindlingTree lost = Boards.of(3, 4, "100 000 000 200", 0);
    Check.same("teach(0, 3)", lost.teach(0, 3), 1);
    lost.put(1, 2);
    Check.yes("lost", lost.isLost());
    Check.same("told() of a lost position", lost.told(), -1);
  }

  private static void goByTheBook() {
    KindlingTree tree = new KindlingTree();
    tree.search(2);
    int nodes = tree.nodes();
    tree.teach(2, 5);
    tree.teach(0, 4);
    Check.same("go(4) by the book", tree.go(4), 2);
    Check.same("fields", Boards.fields(tree), "110001222");
    Check.same("played()", tree.played(), 1);
    Check.same("nodes() of the latest search", tree.nodes(), nodes);
    Check.same("reached() of the latest search", tree.reached(), 2);
    Check.same("bestFrom() of the latest search", tree.bestFrom(), 1);
    KindlingTree fresh = new KindlingTree();
    fresh.teach(1, 1);
    Check.same("go(1) by the book", fresh.go(1), 1);
    Check.same("reached() without a search", fresh.reached(), 0);
    Check.same("bestFrom() without a search", fresh.bestFrom(), -1);
    Check.same("entries() without a search", fresh.entries(), 0);
  }

  private static void goBySearch() {
    KindlingTree tree = new KindlingTree();
    Check.same("go(2)", tree.go(2), 1);
    Check.same("fields", Boards.fields(tree), "101010222");
    Check.same("reached()", tree.reached(), 2);
    Check.same("bestFrom()", tree.bestFrom(), 1);
    Check.same("bestTo()", tree.bestTo(), 4);
    Check.same("played()", tree.played(), 1);
    Check.same("side()", tree.side(), 1);
    Check.same("back()", tree.back(), 0);
    KindlingTree best = Boards.of(3, 4, "100 000 010 200", 0);
    Check.same("go(4) to a win", best.go(4), 1);
    Check.yes("lost for the other side", best.isLost());
  }

  private static void goRefuses() {
    KindlingTree tree = new KindlingTree();
    tree.teach(1, 7);
    Check.argument(tree, "go(0), whatever the book tells", () -> tree.go(0));
    Check.argument(tree, "go(5)", () -> tree.go(5));
    Check.argument(tree, "go(far)", () -> tree.go(Integer.MAX_VALUE));
    Boards.lay(tree, 3, 4, "110 000 000 012", 1);
    Check.state(tree, "go(1) of a lost position", () -> tree.go(1));
    Check.argument(tree, "go(5) of a lost position: the depth first", () -> tree.go(5));
  }

  private static void playOutPlays() {
    KindlingTree tree = new KindlingTree();
    tree.setUp(4, 4, 1);
    KindlingTree other = new KindlingTree();
    other.setUp(4, 4, 1);
    tree.teach(2, 3);
    other.teach(2, 3);
    Check.same("playOut(2, 4)", tree.playOut(2, 4), 4);
    for (int i = 0; i < 4; i++) {
      other.go(2);
    }
    Check.same("what stands behind playOut()", Asked.of(tree), Asked.of(other));
    Check.same("played()", tree.played(), 4);
    Check.same("playOut(1, 1)", tree.playOut(1, 1), 1);
    // to the end of a game, and no further
    KindlingTree short3 = Boards.of(3, 3, "110 000 022", 0);
    int count = short3.playOut(3, 10);
    Check.yes("lost behind playOut()", short3.isLost());
    Check.same("played()", short3.played(), count);
    Check.yes("fewer than 10", count < 10);
    Check.same("playOut() of a lost position", short3.playOut(3, 10), 0);
    KindlingTree long5 = new KindlingTree();
    long5.setUp(5, 5, 1);
    Check.same("playOut(1, 10)", long5.playOut(1, 10), 10);
  }

  private static void playOutRefuses() {
    KindlingTree tree = new KindlingTree();
    tree.search(1);
    Check.argument(tree, "playOut(0, 1)", () -> tree.playOut(0, 1));
    Check.argument(tree, "playOut(4, 1)", () -> tree.playOut(4, 1));
    Check.argument(tree, "playOut(1, 0)", () -> tree.playOut(1, 0));
    Check.argument(tree, "playOut(1, 11)", () -> tree.playOut(1, 11));
    Check.argument(tree, "playOut(1, -1)", () -> tree.playOut(1, -1));
    Check.argument(tree, "playOut(far, far)",
        () -> tree.playOut(Integer.MAX_VALUE, Integer.MIN_VALUE));
    Boards.lay(tree, 3, 4, "110 000 000 012", 1);
    Check.argument(tree, "playOut(4, 1) of a lost position", () -> tree.playOut(4, 1));
    Check.same("playOut(3, 1) of a lost position", tree.playOut(3, 1), 0);
  }

  private static void effort() {
    KindlingTree tree = new KindlingTree();
    Check.same("effort() ahead of a search", tree.effort(), 0.0);
    tree.search(1);
    Check.same("effort() without cuts", tree.effort(), 0.0);
    tree.search(4);
    Check.yes("cuts", tree.cuts() > 1);
    Check.same("effort()", tree.effort(), (double) tree.nodes() / tree.cuts());
    tree.setUp(4, 4, 1);
    tree.search(3);
    Check.same("effort(), not cut", tree.effort(), 64.0 / 9.0);
  }
}
