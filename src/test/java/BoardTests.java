/** Promises 1 to 6: a new object, setUp, put, setSide, play, back. */
public final class BoardTests {
  public static void main(String[] args) {
    newObject();
    setUpLaysRows();
    setUpKeepsAndForgets();
    setUpRefuses();
    putChangesAField();
    putCountsPawns();
    putRefuses();
    setSideTurns();
    setSideRefuses();
    playMovesPawns();
    playRefuses();
    backTakesBack();
    backGoesAllTheWay();
    Check.end("BoardTests");
  }

  private static void newObject() {
    KindlingTree tree = new KindlingTree();
    Check.same("columns of a new one", tree.columns(), 3);
    Check.same("rows of a new one", tree.rows(), 3);
    Check.same("fields of a new one", Boards.fields(tree), "111000222");
    Check.same("side of a new one", tree.side(), 0);
    Check.same("played of a new one", tree.played(), 0);
    Check.same("entries of a new one", tree.entries(), 0);
    Check.same("slots of a new one", tree.slots(), 32);
    Check.same("pages of a new one", tree.pages(), 0);
    Check.same("told of a new one", tree.told(), -1);
    Check.same("known of a new one", tree.known(), 0);
    Check.yes("quiet search of a new one", tree.setQuiet(true));
    // weights 10, 2 and 1: two pawns, a row and a step less
    Boards.lay(tree, 3, 3, "010 200 202", 0);
    Check.same("evaluation with the first weights", tree.evaluation(), -20 - 2 - 1);
    Check.same("digest of a new one", new KindlingTree().digest(), new PlainTree().digest());
  }

  private static void setUpLaysRows() {
    KindlingTree tree = new KindlingTree();
    Check.same("setUp(4, 4, 1)", tree.setUp(4, 4, 1), 8);
    Check.same("fields", Boards.fields(tree), "1111000000002222");
    Check.same("setUp(3, 5, 2)", tree.setUp(3, 5, 2), 12);
    Check.same("fields", Boards.fields(tree), "111111000222222");
    Check.same("setUp(5, 5, 1)", tree.setUp(5, 5, 1), 10);
    Check.same("fields", Boards.fields(tree), "1111100000000000000022222");
    Check.same("setUp(5, 3, 1)", tree.setUp(5, 3, 1), 10);
    Check.same("fields", Boards.fields(tree), "111110000022222");
    Check.same("columns", tree.columns(), 5);
    Check.same("rows", tree.rows(), 3);
    Check.same("setUp(3, 3, 1)", tree.setUp(3, 3, 1), 6);
    Check.same("fields", Boards.fields(tree), "111000222");
  }

  private static void setUpKeepsAndForgets() {
    KindlingTree tree = new KindlingTree();
    tree.weigh(7, 3, 2);
    tree.setQuiet(false);
    tree.setSlots(40);
    tree.teach(1, 5);
    tree.search(4);
    String result = result(tree);
    tree.play(0);
    tree.setUp(3, 3, 1);
    Check.same("side behind setUp", tree.side(), 0);
    Check.same("played behind setUp", tree.played(), 0);
    Check.same("entries behind setUp", tree.entries(), 0);
    Check.same("known behind setUp", tree.known(), 0);
    Check.same("slots behind setUp", tree.slots(), 40);
    Check.same("pages behind setUp", tree.pages(), 1);
    Check.same("told behind setUp", tree.told(), 1);
    Check.same("what was found, behind setUp", result(tree), result);
    Check.yes("a killer stays behind setUp", tree.killer(1, false) >= 0);
    Check.no("quiet search behind setUp", tree.setQuiet(false));
    Boards.lay(tree, 3, 3, "010 200 202", 0);
    Check.same("weights behind setUp", tree.evaluation(), -14 - 3 - 2);
    tree.setUp(4, 4, 1);
    Check.same("told on another board", tree.told(), -1);
  }

  private static String result(KindlingTree tree) {
    StringBuilder text = new StringBuilder();
    for (int depth = 1; depth <= 4; depth++) {
      text.append(tree.killer(depth, false)).append(' ').append(tree.killer(depth, true));
      text.append(' ');
    }
    return text.append(tree.bestFrom()).append(' ').append(tree.bestTo()).append(' ')
        .append(tree.reached()).append(' ').append(tree.nodes()).append(' ')
        .append(tree.hits()).append(' ').append(tree.cuts()).toString();
  }

  private static void setUpRefuses() {
    int far = Integer.MAX_VALUE;
    int[][] bad = {
      {2, 3, 1}, {6, 3, 1}, {3, 2, 1}, {3, 6, 1}, {3, 3, 0}, {3, 3, -1}, {3, 3, 2}, {3, 4, 2},
      {4, 5, 2}, {5, 5, 2}, {3, 5, 3}, {3, 3, far}, {3, 3, 1 << 30}, {4, 4, 1 << 30},
      {3, 5, 715827883}, {4, 5, 1 << 31}, {3, 3, Integer.MIN_VALUE}, {far, 3, 1}, {3, far, 1},
      {-3, 3, 1}, {3, -3, 1}, {0, 0, 0}, {1 << 30, 4, 1}
    };
    for (int[] b : bad) {
      KindlingTree tree = new KindlingTree();
      tree.teach(0, 3);
      tree.search(2);
      tree.play(0);
      Check.argument(tree, "setUp(" + b[0] + ", " + b[1] + ", " + b[2] + ")",
          () -> tree.setUp(b[0], b[1], b[2]));
      Check.same("back behind a refused one", tree.back(), 0);
    }
  }

  private static void putChangesAField() {
    KindlingTree tree = new KindlingTree();
    tree.search(2);
    int entries = tree.entries();
    Check.same("put(4, 2)", tree.put(4, 2), 0);
    Check.same("put(0, 0)", tree.put(0, 0), 1);
    Check.same("put(8, 1)", tree.put(8, 1), 2);
    Check.same("fields", Boards.fields(tree), "011020221");
    Check.same("side behind put", tree.side(), 0);
    Check.same("entries behind put", tree.entries(), entries);
    Check.yes("the table held something", entries > 0);
    Check.same("put(4, 0)", tree.put(4, 0), 2);
    tree.put(8, 2);
    tree.put(0, 1);
    Check.same("known when the fields are as before", tree.known(), 2);
    Boards.play(tree, 0, 3);
    Check.same("put(0, 0) where nothing is", tree.put(0, 0), 0);
    Check.same("played behind a put that changes nothing", tree.played(), 0);
    Check.same("side behind put", tree.side(), 1);
    Check.same("moves behind put", Boards.moves(tree), "7x3 7-4 8-5");
  }

  private static void putCountsPawns() {
    KindlingTree tree = new KindlingTree();
    tree.setUp(3, 5, 2);
    Check.same("put of the same, with 6 of them", tree.put(0, 1), 1);
    Check.state(tree, "put of a 7th of the side 0", () -> tree.put(6, 1));
    Check.state(tree, "put of a 7th of the side 1", () -> tree.put(7, 2));
    Check.state(tree, "put of a 7th on one of the other side", () -> tree.put(9, 1));
    Check.state(tree, "put of a 7th on one of the other side", () -> tree.put(0, 2));
    Check.same("put of nothing, with 6 of them", tree.put(9, 0), 2);
    Check.same("put of the 6th again", tree.put(8, 2), 0);
    Check.same("put of nothing", tree.put(0, 0), 1);
    Check.same("put of the 6th of the side 0", tree.put(12, 1), 2);
    Check.same("fields", Boards.fields(tree), "011111002022122");
  }

  private static void putRefuses() {
    KindlingTree tree = new KindlingTree();
    tree.setUp(3, 5, 2);
    tree.play(0);
    Check.index(tree, "put(15, 0)", () -> tree.put(15, 0));
    Check.index(tree, "put(-1, 0)", () -> tree.put(-1, 0));
    Check.index(tree, "put(25, 0)", () -> tree.put(25, 0));
    Check.index(tree, "put(far, 0)", () -> tree.put(Integer.MAX_VALUE, 0));
    Check.index(tree, "put(far below, 0)", () -> tree.put(Integer.MIN_VALUE, 0));
    Check.index(tree, "put(15, 3): the field first", () -> tree.put(15, 3));
    Check.argument(tree, "put(6, 3)", () -> tree.put(6, 3));
    Check.argument(tree, "put(6, -1)", () -> tree.put(6, -1));
    Check.argument(tree, "put(6, far)", () -> tree.put(6, Integer.MAX_VALUE));
    Check.state(tree, "put(7, 1)", () -> tree.put(7, 1));
    Check.same("back behind refused ones", tree.back(), 0);
  }

  private static void setSideTurns() {
    KindlingTree tree = new KindlingTree();
    tree.search(2);
    int entries = tree.entries();
    Check.same("setSide(1)", tree.setSide(1), 0);
    Check.same("side", tree.side(), 1);
    Check.same("moves", Boards.moves(tree), "6-3 7-4 8-5");
    Check.same("setSide(1) again", tree.setSide(1), 1);
    tree.play(0);
    Check.same("setSide(0)", tree.setSide(0), 0);
    Check.same("played behind a setSide that changes nothing", tree.played(), 0);
    Check.same("entries behind setSide", tree.entries(), entries);
    Check.yes("the table held something", entries > 0);
    Check.same("fields behind setSide", Boards.fields(tree), "111200022");
  }

  private static void setSideRefuses() {
    KindlingTree tree = new KindlingTree();
    tree.play(1);
    Check.argument(tree, "setSide(2)", () -> tree.setSide(2));
    Check.argument(tree, "setSide(-1)", () -> tree.setSide(-1));
    Check.argument(tree, "setSide(far)", () -> tree.setSide(Integer.MIN_VALUE));
    Check.same("back behind refused ones", tree.back(), 0);
  }

  private static void playMovesPawns() {
    KindlingTree tree = new KindlingTree();
    tree.search(2);
    int entries = tree.entries();
    Check.same("play(1)", tree.play(1), 0);
    Check.same("fields", Boards.fields(tree), "101010222");
    Check.same("side", tree.side(), 1);
    Check.same("played", tree.played(), 1);
    Check.same("entries behind play", tree.entries(), entries);
    Check.same("moves", Boards.moves(tree), "6-3 6x4 8x4 8-5");
    Check.same("play(2), which takes", tree.play(2), 1);
    Check.same("fields", Boards.fields(tree), "101020220");
    Check.same("moves", Boards.moves(tree), "0-3 0x4 2x4 2-5");
    Check.same("play(1), which takes", tree.play(1), 2);
    Check.same("fields", Boards.fields(tree), "001010220");
    Check.same("played", tree.played(), 3);
    Check.same("side", tree.side(), 1);
  }

  private static void playRefuses() {
    KindlingTree tree = new KindlingTree();
    tree.play(0);
    Check.index(tree, "play(3)", () -> tree.play(3));
    Check.index(tree, "play(-1)", () -> tree.play(-1));
    Check.index(tree, "play(far)", () -> tree.play(Integer.MAX_VALUE));
    KindlingTree lost = Boards.of(3, 3, "100 000 012", 1);
    Check.index(lost, "play(0) of a lost position", () -> lost.play(0));
  }

  private static void backTakesBack() {
    KindlingTree tree = new KindlingTree();
    String first = Asked.of(tree);
    tree.play(1);
    String second = Asked.of(tree);
    tree.play(1);
    Check.same("back()", tree.back(), 1);
    Check.same("what stands behind back()", Asked.of(tree), second);
    Check.same("back()", tree.back(), 0);
    Check.same("what stands behind back()", Asked.of(tree), first);
    Check.state(tree, "back() with nothing", tree::back);
    tree.play(0);
    tree.search(2);
    int known = tree.entries();
    tree.back();
    Check.same("entries behind back()", tree.entries(), known);
    tree.play(2);
    Check.same("fields behind another move", Boards.fields(tree), "110001222");
    tree.setSide(0);
    Check.state(tree, "back() behind setSide", tree::back);
    tree.play(0);
    tree.put(4, 0);
    Check.state(tree, "back() behind put", tree::back);
    tree.play(0);
    tree.setUp(3, 3, 1);
    Check.state(tree, "back() behind setUp", tree::back);
  }

  /** No game is longer than 37 moves (12 pawns, 3 rows each, one more): 40 are never passed. */
  private static void backGoesAllTheWay() {
    KindlingTree tree = new KindlingTree();
    tree.setUp(5, 5, 1);
    StringBuilder keys = new StringBuilder();
    int count = 0;
    while (!tree.isLost() && count < 100) {
      keys.append(tree.key()).append(' ');
      tree.play((count * 7) % tree.moves());
      count++;
      Check.same("played", tree.played(), count);
    }
    StringBuilder again = new StringBuilder();
    while (tree.played() > 0) {
      Check.same("back()", tree.back(), count - 1);
      again.insert(0, tree.key() + " ");
      count--;
    }
    Check.same("the keys of all positions", again.toString(), keys.toString());
  }
}
