import java.util.Random;

/** Promises 26 to 33: search, and what is asked of the latest one. */
public final class SearchTests {
  public static void main(String[] args) {
    aheadOfTheFirst();
    oneDeep();
    fourByFour();
    searchRefuses();
    quietIsSwitchedOff();
    hitsAtTheRoot();
    killersByDepth();
    killersAreForgotten();
    nodesEndASearch();
    nodesEndASearchEarly();
    latestSearchStays();
    searchesAgree();
    Check.end("SearchTests");
  }

  private static void aheadOfTheFirst() {
    KindlingTree tree = new KindlingTree();
    Check.same("bestFrom() ahead of the first", tree.bestFrom(), -1);
    Check.same("bestTo() ahead of the first", tree.bestTo(), -1);
    Check.same("reached() ahead of the first", tree.reached(), 0);
    Check.same("nodes() ahead of the first", tree.nodes(), 0);
    Check.same("hits() ahead of the first", tree.hits(), 0);
    Check.same("cuts() ahead of the first", tree.cuts(), 0);
    for (int depth = -1; depth <= 6; depth++) {
      Check.same("killer() ahead of the first", tree.killer(depth, false), -1);
      Check.same("older killer() ahead of the first", tree.killer(depth, true), -1);
    }
    tree.value(3);
    tree.valueOf(0, 3);
    Check.same("nodes() behind value()", tree.nodes(), 0);
    Check.same("entries() behind value()", tree.entries(), 0);
  }

  /**
   * Told by hand: behind 0-3 three takings are looked at (-2, -12, -2), then -2 is enough for a
   * cut of QUIET behind 1-4 and 2-5: the first of equal moves is the best one.
   */
  private static void oneDeep() {
    KindlingTree tree = new KindlingTree();
    Check.same("search(1)", tree.search(1), 2);
    Check.same("bestFrom()", tree.bestFrom(), 0);
    Check.same("bestTo()", tree.bestTo(), 3);
    Check.same("reached()", tree.reached(), 1);
    Check.same("nodes()", tree.nodes(), 6);
    Check.same("hits()", tree.hits(), 0);
    Check.same("cuts() without those of QUIET", tree.cuts(), 0);
    Check.same("entries()", tree.entries(), 1);
    Check.same("played() behind search()", tree.played(), 0);
    Check.same("fields behind search()", Boards.fields(tree), "111000222");
  }

  private static void fourByFour() {
    KindlingTree tree = new KindlingTree();
    tree.setUp(4, 4, 1);
    Check.same("search(3)", tree.search(3), 2);
    same(tree, 0, 4, 3, 64, 0, 9);
    Check.same("killer(1, false)", tree.killer(1, false), 206);
    Check.same("killer(1, true)", tree.killer(1, true), 1208);
    Check.same("killer(2, false)", tree.killer(2, false), 1208);
    Check.same("search(4)", tree.search(4), 0);
    Check.same("nodes()", tree.nodes(), 242);
    Check.same("hits()", tree.hits(), 0);
  }

  private static void same(KindlingTree tree, int from, int to, int reached, int nodes, int hits,
      int cuts) {
    Check.same("bestFrom()", tree.bestFrom(), from);
    Check.same("bestTo()", tree.bestTo(), to);
    Check.same("reached()", tree.reached(), reached);
    Check.same("nodes()", tree.nodes(), nodes);
    Check.same("hits()", tree.hits(), hits);
    Check.same("cuts()", tree.cuts(), cuts);
  }

  private static void searchRefuses() {
    KindlingTree tree = new KindlingTree();
    tree.search(2);
    tree.play(0);
    Check.argument(tree, "search(0)", () -> tree.search(0));
    Check.argument(tree, "search(5)", () -> tree.search(5));
    Check.argument(tree, "search(far)", () -> tree.search(Integer.MAX_VALUE));
    Check.argument(tree, "search(far below)", () -> tree.search(Integer.MIN_VALUE));
    Boards.lay(tree, 3, 4, "110 000 000 012", 1);
    Check.state(tree, "search(1) of a lost position", () -> tree.search(1));
    Check.state(tree, "search(4) of a lost position", () -> tree.search(4));
    Check.argument(tree, "search(5) of a lost position: the depth first", () -> tree.search(5));
    Check.argument(tree, "search(0) of a lost position: the depth first", () -> tree.search(0));
  }

  private static void quietIsSwitchedOff() {
    KindlingTree tree = new KindlingTree();
    tree.setUp(3, 5, 2);
    Check.same("search(3)", tree.search(3), 1);
    Check.same("nodes()", tree.nodes(), 118);
    tree.setQuiet(false);
    Check.same("search(3) without quiet search", tree.search(3), 3);
    Check.same("nodes() without quiet search", tree.nodes(), 37);
    Check.same("cuts() without quiet search", tree.cuts(), 6);
  }

  private static void hitsAtTheRoot() {
    KindlingTree tree = new KindlingTree();
    tree.search(1);
    int from = tree.bestFrom();
    int to = tree.bestTo();
    Check.same("search(1) again", tree.search(1), 2);
    same(tree, from, to, 1, 1, 1, 0);
    // an entry with another depth is no hit, but its move is tried first
    tree.search(2);
    Check.same("search(1) behind search(2)", tree.search(1), 2);
    Check.same("hits()", tree.hits(), 0);
    Check.same("the move of the entry is first of equal ones", tree.bestFrom(), 1);
    // the best move of a hit is that of the entry, whatever was found meanwhile
    tree.empty();
    tree.search(1);
    tree.play(2);
    tree.search(1);
    Check.yes("another best move", tree.bestFrom() > 5);
    tree.back();
    Check.same("search(1) of the first again", tree.search(1), 2);
    same(tree, 0, 3, 1, 1, 1, 0);
  }

  private static void killersByDepth() {
    KindlingTree tree = new KindlingTree();
    tree.search(4);
    Check.same("killer(1, false)", tree.killer(1, false), 603);
    Check.same("killer(1, true)", tree.killer(1, true), 805);
    Check.same("killer(2, false)", tree.killer(2, false), -1);
    Check.same("killer(0, false)", tree.killer(0, false), -1);
    Check.same("killer(5, true)", tree.killer(5, true), -1);
    Check.same("killer(-1, false)", tree.killer(-1, false), -1);
    Check.same("killer(far, false)", tree.killer(Integer.MAX_VALUE, false), -1);
    Check.same("killer(far below, true)", tree.killer(Integer.MIN_VALUE, true), -1);
    tree.play(0);
    tree.put(0, 0);
    tree.empty();
    Check.same("killer(1, false) behind other calls", tree.killer(1, false), 603);
  }

  private static void killersAreForgotten() {
    KindlingTree tree = new KindlingTree();
    tree.search(4);
    tree.search(1);
    Check.same("killer(1, false) behind another search", tree.killer(1, false), -1);
    Check.same("killer(1, true) behind another search", tree.killer(1, true), -1);
  }

  /** With 1000 nodes behind a depth the next one is searched, with 1001 it is not. */
  private static void nodesEndASearch() {
    KindlingTree tree = Boards.of(4, 5, "0001 0100 1111 2220 2220", 0);
    tree.setSlots(0);
    tree.search(3);
    Check.same("nodes()", tree.nodes(), 1000);
    Check.same("reached()", tree.reached(), 3);
    Check.same("search(4)", tree.search(4), valueWith(tree, 4, 5, 0));
    Check.same("nodes()", tree.nodes(), 2072);
    Check.same("reached()", tree.reached(), 4);

    tree = Boards.of(4, 4, "1101 0111 2222 0220", 0);
    Check.same("search(4)", tree.search(4), tree.value(3));
    Check.same("nodes()", tree.nodes(), 1001);
    Check.same("reached()", tree.reached(), 3);
    Check.same("known()", tree.known(), 3);
  }

  private static int valueWith(KindlingTree tree, int columns, int rows, int slots) {
    PlainTree plain = Boards.plain(columns, rows, Boards.fields(tree), tree.side());
    plain.setSlots(slots);
    return plain.search(4);
  }

  private static void nodesEndASearchEarly() {
    Random random = new Random(3);
    int found = 0;
    for (int i = 0; i < 100000 && found < 3; i++) {
      KindlingTree tree = Boards.of(5, 5, Randoms.fields(random, 5, 5), 0);
      tree.setSlots(0);
      if (!tree.isLost() && tree.search(2) < 900 && tree.nodes() > 1000) {
        found++;
        Check.same("search(4) ended behind 2", tree.search(4), tree.value(2));
        Check.same("reached()", tree.reached(), 2);
      }
    }
    Check.same("such positions", found, 3);
  }

  private static void latestSearchStays() {
    KindlingTree tree = new KindlingTree();
    tree.setUp(4, 4, 1);
    tree.search(3);
    tree.play(0);
    tree.play(1);
    tree.back();
    tree.put(15, 0);
    tree.setSide(0);
    tree.weigh(1, 1, 1);
    tree.setQuiet(false);
    tree.setSlots(2);
    tree.setUp(3, 5, 1);
    same(tree, 0, 4, 3, 64, 0, 9);
  }

  /** All that a search leaves, compared with the document told once more. */
  private static void searchesAgree() {
    Random random = new Random(26);
    for (int i = 0; i < 400; i++) {
      int columns = 3 + random.nextInt(3);
      int rows = 3 + random.nextInt(3);
      String fields = Randoms.fields(random, columns, rows);
      int side = random.nextInt(2);
      KindlingTree tree = Boards.of(columns, rows, fields, side);
      PlainTree plain = Boards.plain(columns, rows, fields, side);
      int slots = random.nextInt(4) * 20;
      tree.setSlots(slots);
      plain.setSlots(slots);
      int depth = 1 + random.nextInt(4);
      for (int more = 0; more < 3 && !tree.isLost(); more++) {
        Check.same("search of " + fields, tree.search(depth), plain.search(depth));
        Check.same("what a search of " + fields + " leaves", tree.digest(), plain.digest());
        if (depth < 4) {
          Check.same("search of " + fields, tree.search(depth), tree.value(tree.reached()));
          plain.search(depth);
        }
        int move = random.nextInt(tree.moves());
        tree.play(move);
        plain.play(move);
      }
    }
  }
}
