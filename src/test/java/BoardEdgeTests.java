/** Promises 1 to 6, a test for each sentence that names an edge, something empty or a refusal. */
public final class BoardEdgeTests {
  private static final int FAR = Integer.MAX_VALUE;
  private static final int FAR_BELOW = Integer.MIN_VALUE;

  public static void main(String[] args) {
    Sentences.runAll(BoardEdgeTests.class);
  }

  // ---- Promise 1: a new object

  @Holds(in = "Promise 1", says = "Creates a BOARD with 3 columns and 3 rows")
  static void newBoardIsTheSmallest() {
    KindlingTree tree = new KindlingTree();
    Check.same("columns()", tree.columns(), 3);
    Check.same("rows()", tree.rows(), 3);
    Check.same("at(8)", tree.at(8), 2);
    Check.index(tree, "at(9)", () -> tree.at(9));
  }

  @Holds(in = "Promise 1",
      says = "with pawns of the side 0 in the row 0, of the side 1 in the row 2")
  static void newBoardHasPawnsInItsFirstAndLastRow() {
    Check.same("fields", Boards.fields(new KindlingTree()), "111000222");
  }

  @Holds(in = "Promise 1", says = "the side 0 is to move")
  static void newBoardHasTheSide0ToMove() {
    Check.same("side()", new KindlingTree().side(), 0);
  }

  @Holds(in = "Promise 1", says = "an empty TABLE and BOOK")
  static void newTableAndBookAreEmpty() {
    KindlingTree tree = new KindlingTree();
    Check.same("entries()", tree.entries(), 0);
    Check.same("pages()", tree.pages(), 0);
    Check.same("known()", tree.known(), 0);
    Check.same("told()", tree.told(), -1);
    for (int slot = 0; slot < tree.slots(); slot++) {
      Check.same("ofSlot(" + slot + ", 0)", tree.ofSlot(slot, 0), -1);
    }
  }

  // ---- Promise 2: setUp

  private static KindlingTree inTheMiddle() {
    KindlingTree tree = new KindlingTree();
    tree.setUp(4, 4, 1);
    tree.teach(1, 9);
    tree.search(3);
    tree.play(0);
    tree.play(0);
    return tree;
  }

  private static void setUpRefuses(int columns, int rows, int full) {
    KindlingTree tree = inTheMiddle();
    Check.argument(tree, "setUp(" + columns + ", " + rows + ", " + full + ")",
        () -> tree.setUp(columns, rows, full));
    Check.same("back() behind it", tree.back(), 1);
  }

  private static void setUpTakes(int columns, int rows, int full, String fields) {
    KindlingTree tree = inTheMiddle();
    String due = fields.replace(" ", "");
    Check.same("setUp(" + columns + ", " + rows + ", " + full + ")",
        tree.setUp(columns, rows, full), 2 * full * columns);
    Check.same("columns()", tree.columns(), columns);
    Check.same("rows()", tree.rows(), rows);
    Check.same("fields", Boards.fields(tree), due);
    Check.index(tree, "at() behind the last field", () -> tree.at(due.length()));
  }

  @Holds(in = "Promise 2", says = "columns is not 3 to 5")
  static void setUpColumnsTooFew() {
    setUpRefuses(2, 3, 1);
    setUpRefuses(0, 3, 1);
    setUpRefuses(-3, 3, 1);
    setUpRefuses(FAR_BELOW, 3, 1);
    setUpTakes(3, 4, 1, "111 000 000 222");
  }

  @Holds(in = "Promise 2", says = "columns is not 3 to 5")
  static void setUpColumnsTooMany() {
    setUpRefuses(6, 3, 1);
    setUpRefuses(FAR, 3, 1);
    setUpTakes(5, 4, 1, "11111 00000 00000 22222");
  }

  @Holds(in = "Promise 2", says = "rows is not 3 to 5")
  static void setUpRowsTooFew() {
    setUpRefuses(3, 2, 1);
    setUpRefuses(3, 0, 1);
    setUpRefuses(3, -3, 1);
    setUpRefuses(3, FAR_BELOW, 1);
    setUpTakes(4, 3, 1, "1111 0000 2222");
  }

  @Holds(in = "Promise 2", says = "rows is not 3 to 5")
  static void setUpRowsTooMany() {
    setUpRefuses(3, 6, 1);
    setUpRefuses(3, 6, 2);
    setUpRefuses(3, FAR, 1);
    setUpTakes(4, 5, 1, "1111 0000 0000 0000 2222");
  }

  @Holds(in = "Promise 2", says = "full is less than 1")
  static void setUpFullTooFew() {
    setUpRefuses(3, 3, 0);
    setUpRefuses(3, 3, -1);
    setUpRefuses(5, 5, FAR_BELOW);
    // 2 * this wraps round to 0
    setUpRefuses(3, 3, 1 << 31);
    setUpTakes(3, 3, 1, "111 000 222");
  }

  @Holds(in = "Promise 2", says = "2 * full is rows or more")
  static void setUpFullTooManyForTheRows() {
    setUpRefuses(3, 3, 2);
    setUpRefuses(3, 4, 2);
    setUpRefuses(3, 4, FAR);
    // 2 * this and 3 * this wrap round to numbers below 0
    setUpRefuses(3, 5, 1 << 30);
    setUpTakes(3, 5, 2, "111 111 000 222 222");
  }

  @Holds(in = "Promise 2", says = "full * columns is more than 6")
  static void setUpFullTooManyForTheSides() {
    setUpRefuses(4, 5, 2);
    setUpRefuses(5, 5, 2);
    setUpTakes(3, 5, 2, "111 111 000 222 222");
    setUpTakes(5, 5, 1, "11111 00000 00000 00000 22222");
  }

  @Holds(in = "Promise 2", says = "Returns how many pawns there are")
  static void setUpTellsTheFewestAndTheMostPawns() {
    KindlingTree tree = new KindlingTree();
    Check.same("setUp(3, 3, 1)", tree.setUp(3, 3, 1), 6);
    Check.same("setUp(3, 5, 2)", tree.setUp(3, 5, 2), 12);
    Check.same("setUp(5, 3, 1)", tree.setUp(5, 3, 1), 10);
  }

  @Holds(in = "Promise 2", says = "the side 0 is to move")
  static void setUpTurnsToTheSide0() {
    KindlingTree tree = new KindlingTree();
    tree.setSide(1);
    tree.setUp(3, 3, 1);
    Check.same("side()", tree.side(), 0);
  }

  @Holds(in = "Promise 2", says = "there is nothing to take back")
  static void setUpLeavesNothingToTakeBack() {
    KindlingTree tree = inTheMiddle();
    tree.setUp(4, 4, 1);
    Check.same("played()", tree.played(), 0);
    Check.state(tree, "back()", tree::back);
  }

  @Holds(in = "Promise 2", says = "The TABLE is emptied")
  static void setUpEmptiesTheTable() {
    KindlingTree tree = new KindlingTree();
    tree.search(3);
    Check.yes("it held something", tree.entries() > 0);
    tree.setUp(3, 3, 1);
    Check.same("entries()", tree.entries(), 0);
    Check.same("known()", tree.known(), 0);
    Check.same("slots()", tree.slots(), 32);
  }

  @Holds(in = "Promise 2", says = "The BOOK stays: entries count by their KEYS alone")
  static void setUpKeepsTheBook() {
    KindlingTree tree = new KindlingTree();
    tree.teach(2, 5);
    tree.setUp(4, 4, 1);
    Check.same("pages()", tree.pages(), 1);
    Check.same("told() with another key", tree.told(), -1);
    tree.setUp(3, 3, 1);
    Check.same("told()", tree.told(), 2);
  }

  /** On 15 fields a step by 4 goes aside to the right in 3 columns, to the left in 5. */
  @Holds(in = "Promise 2", says = "entries count by their KEYS alone")
  static void bookCountsOnAnotherBoardWithTheKey() {
    KindlingTree tree = Boards.of(3, 5, "010 002 000 000 000", 0);
    long key = tree.key();
    Check.same("moves", Boards.moves(tree), "1-4 1x5");
    tree.teach(1, 40);
    Boards.lay(tree, 5, 3, "01000 20000 00000", 0);
    Check.same("key()", tree.key(), key);
    Check.same("moves", Boards.moves(tree), "1x5 1-6");
    Check.same("told()", tree.told(), 0);
  }

  @Holds(in = "Promise 2", says = "what the latest search told stays, too, KILLERS as well")
  static void setUpKeepsWhatWasFound() {
    KindlingTree tree = new KindlingTree();
    tree.setUp(4, 4, 1);
    tree.search(3);
    tree.setUp(3, 5, 2);
    Check.same("bestFrom()", tree.bestFrom(), 0);
    Check.same("bestTo()", tree.bestTo(), 4);
    Check.same("reached()", tree.reached(), 3);
    Check.same("nodes()", tree.nodes(), 64);
    Check.same("cuts()", tree.cuts(), 9);
    Check.same("killer(1, false)", tree.killer(1, false), 206);
    Check.same("killer(1, true)", tree.killer(1, true), 1208);
    Check.same("killer(2, false)", tree.killer(2, false), 1208);
  }

  // ---- Promise 3: put

  private static KindlingTree withSixEach() {
    KindlingTree tree = new KindlingTree();
    tree.setUp(3, 5, 2);
    tree.search(2);
    tree.play(0);
    return tree;
  }

  @Holds(in = "Promise 3", says = "Throws `IndexOutOfBoundsException` if there is no such FIELD")
  static void putOnNoField() {
    KindlingTree tree = withSixEach();
    Check.index(tree, "put(-1, 0)", () -> tree.put(-1, 0));
    Check.index(tree, "put(15, 0)", () -> tree.put(15, 0));
    Check.index(tree, "put(24, 0)", () -> tree.put(24, 0));
    Check.index(tree, "put(25, 0)", () -> tree.put(25, 0));
    Check.index(tree, "put(far, 0)", () -> tree.put(FAR, 0));
    Check.index(tree, "put(far below, 0)", () -> tree.put(FAR_BELOW, 0));
    Check.same("back() behind them", tree.back(), 0);
    Check.same("put(14, 0)", tree.put(14, 0), 2);
    Check.same("put(0, 0)", tree.put(0, 0), 1);
  }

  @Holds(in = "Promise 3", says = "what is not 0 to 2")
  static void putOfNothingKnown() {
    KindlingTree tree = withSixEach();
    Check.argument(tree, "put(7, -1)", () -> tree.put(7, -1));
    Check.argument(tree, "put(7, 3)", () -> tree.put(7, 3));
    Check.argument(tree, "put(7, far)", () -> tree.put(7, FAR));
    Check.argument(tree, "put(7, far below)", () -> tree.put(7, FAR_BELOW));
    Check.same("back() behind them", tree.back(), 0);
    KindlingTree few = new KindlingTree();
    for (int what = 0; what <= 2; what++) {
      few.put(4, what);
      Check.same("at(4)", few.at(4), what);
    }
  }

  @Holds(in = "Promise 3", says = "a side would have more than 6 pawns")
  static void putOfA7thOfTheSide0() {
    KindlingTree tree = withSixEach();
    Check.state(tree, "put(8, 1)", () -> tree.put(8, 1));
    Check.state(tree, "put(9, 1), where one of the side 1 is", () -> tree.put(9, 1));
    Check.same("back() behind them", tree.back(), 0);
    tree.put(0, 0);
    Check.same("put(8, 1) of a 6th", tree.put(8, 1), 0);
    Check.state(tree, "put(0, 1) of a 7th", () -> tree.put(0, 1));
  }

  @Holds(in = "Promise 3", says = "a side would have more than 6 pawns")
  static void putOfA7thOfTheSide1() {
    KindlingTree tree = withSixEach();
    Check.state(tree, "put(8, 2)", () -> tree.put(8, 2));
    Check.state(tree, "put(1, 2), where one of the side 0 is", () -> tree.put(1, 2));
    Check.same("back() behind them", tree.back(), 0);
    tree.put(14, 0);
    Check.same("put(8, 2) of a 6th", tree.put(8, 2), 0);
    Check.state(tree, "put(14, 2) of a 7th", () -> tree.put(14, 2));
  }

  @Holds(in = "Promise 3", says = "a side would have more than 6 pawns")
  static void putThatLeavesSix() {
    KindlingTree tree = withSixEach();
    Check.same("put(1, 1), where one is", tree.put(1, 1), 1);
    Check.same("put(14, 2), where one is", tree.put(14, 2), 2);
    Check.same("put(1, 0)", tree.put(1, 0), 1);
    Check.same("put(14, 1) of a 6th, where one of the side 1 is", tree.put(14, 1), 2);
    Check.same("put(8, 2) of a 6th", tree.put(8, 2), 0);
    Check.same("put(7, 0), where nothing is", tree.put(7, 0), 0);
  }

  @Holds(in = "Promise 3", says = "there is nothing to take back then")
  static void putLeavesNothingToTakeBack() {
    KindlingTree tree = withSixEach();
    tree.put(7, 0);
    Check.same("played() behind a put that changes nothing", tree.played(), 0);
    Check.state(tree, "back()", tree::back);
  }

  // ---- Promise 4: setSide

  @Holds(in = "Promise 4", says = "Throws `IllegalArgumentException` if side is not 0 or 1")
  static void setSideOfNoSide() {
    KindlingTree tree = withSixEach();
    Check.argument(tree, "setSide(-1)", () -> tree.setSide(-1));
    Check.argument(tree, "setSide(2)", () -> tree.setSide(2));
    Check.argument(tree, "setSide(far)", () -> tree.setSide(FAR));
    Check.argument(tree, "setSide(far below)", () -> tree.setSide(FAR_BELOW));
    Check.same("back() behind them", tree.back(), 0);
    Check.same("setSide(1)", tree.setSide(1), 0);
    Check.same("setSide(0)", tree.setSide(0), 1);
  }

  @Holds(in = "Promise 4", says = "there is nothing to take back then")
  static void setSideLeavesNothingToTakeBack() {
    KindlingTree tree = withSixEach();
    tree.setSide(1);
    Check.same("played() behind a setSide that changes nothing", tree.played(), 0);
    Check.state(tree, "back()", tree::back);
    tree.play(0);
    tree.setSide(1);
    Check.state(tree, "back() behind one that changes", tree::back);
  }

  @Holds(in = "Promise 4", says = "The TABLE stays")
  static void setSideKeepsTheTable() {
    KindlingTree tree = new KindlingTree();
    tree.search(3);
    int entries = tree.entries();
    tree.setSide(1);
    Check.same("entries()", tree.entries(), entries);
    Check.same("known() of the other side", tree.known(), 0);
    tree.setSide(0);
    Check.same("known()", tree.known(), 3);
  }

  // ---- Promise 5: play

  @Holds(in = "Promise 5", says = "Throws `IndexOutOfBoundsException` if there is no such MOVE")
  static void playOfNoMove() {
    KindlingTree tree = inTheMiddle();
    int moves = tree.moves();
    Check.index(tree, "play(-1)", () -> tree.play(-1));
    Check.index(tree, "play(moves())", () -> tree.play(moves));
    Check.index(tree, "play(far)", () -> tree.play(FAR));
    Check.index(tree, "play(far below)", () -> tree.play(FAR_BELOW));
    Check.same("back() behind them", tree.back(), 1);
    tree.play(0);
    tree.play(tree.moves() - 1);
    Check.same("played() behind the last move", tree.played(), 3);
  }

  @Holds(in = "Promise 5", says = "Throws `IndexOutOfBoundsException` if there is no such MOVE")
  static void playInALostPosition() {
    KindlingTree through = Boards.of(3, 4, "110 000 000 012", 1);
    Check.index(through, "play(0) of a lost one with steps", () -> through.play(0));
    KindlingTree blocked = Boards.of(3, 4, "000 100 200 000", 0);
    Check.index(blocked, "play(0) without steps", () -> blocked.play(0));
  }

  @Holds(in = "Promise 5", says = "Returns what was TAKEN: 0 if nothing, 1 or 2")
  static void playTellsWhatWasTaken() {
    KindlingTree tree = new KindlingTree();
    Check.same("play() of 1-4", tree.play(1), 0);
    Check.same("play() of 6x4", tree.play(1), 1);
    Check.same("play() of 0x4", tree.play(1), 2);
  }

  // ---- Promise 6: back

  @Holds(in = "Promise 6", says = "Throws `IllegalStateException` if there is none")
  static void backWithNothing() {
    KindlingTree tree = new KindlingTree();
    Check.state(tree, "back() of a new one", tree::back);
    tree.play(0);
    tree.back();
    Check.state(tree, "back() behind the only one", tree::back);
  }

  @Holds(in = "Promise 6", says = "Returns how many more can be taken back")
  static void backTellsHowManyMore() {
    KindlingTree tree = new KindlingTree();
    tree.play(0);
    tree.play(0);
    Check.same("back()", tree.back(), 1);
    Check.same("back() of the last one", tree.back(), 0);
  }

  @Holds(in = "Promise 6", says = "Takes the latest MOVE that was played back")
  static void backPutsBackWhatWasTaken() {
    KindlingTree tree = new KindlingTree();
    tree.play(1);
    tree.play(1);
    tree.play(1);
    Check.same("fields", Boards.fields(tree), "001010022");
    tree.back();
    Check.same("fields", Boards.fields(tree), "101020022");
    Check.same("side()", tree.side(), 0);
    tree.back();
    Check.same("fields", Boards.fields(tree), "101010222");
    Check.same("side()", tree.side(), 1);
    Check.same("moves", Boards.moves(tree), "6-3 6x4 8x4 8-5");
  }

  @Holds(in = "Promise 6", says = "Takes the latest MOVE that was played back")
  static void backOfTheOnlyMoveThatTook() {
    KindlingTree tree = Boards.of(3, 4, "010 202 000 000", 0);
    Check.same("play() of 1x5", tree.play(2), 2);
    Check.same("fields", Boards.fields(tree), "000201000000");
    Check.same("back()", tree.back(), 0);
    Check.same("fields", Boards.fields(tree), "010202000000");
    tree.setSide(1);
    Check.same("play() of 3x1", tree.play(1), 1);
    Check.same("back()", tree.back(), 0);
    Check.same("fields", Boards.fields(tree), "010202000000");
    Check.same("side()", tree.side(), 1);
  }

  /**
   * The longest game that was found, of 35 moves. No game has more than 37 (12 pawns go three rows
   * at most, and one of them goes one more), so the 41st latest one can't be asked for.
   */
  @Holds(in = "Promise 6", says = "the 40 latest ones can be taken back, one after the other")
  static void backTakesALongGameBack() {
    int[] game = {
      3, 2, 4, 1, 4, 4, 3, 2, 3, 0, 5, 2, 5, 3, 2, 6, 2, 1, 1, 1, 3, 3, 2, 2, 2, 1, 2, 6, 1, 2, 0,
      1, 0, 2, 0
    };
    KindlingTree tree = Boards.of(5, 5, "11111 10000 00000 02000 22222", 0);
    long[] keys = new long[game.length];
    for (int i = 0; i < game.length; i++) {
      keys[i] = tree.key();
      tree.play(game[i]);
      Check.same("played()", tree.played(), i + 1);
    }
    Check.yes("lost at its end", tree.isLost());
    for (int i = game.length - 1; i >= 0; i--) {
      Check.same("back()", tree.back(), i);
      Check.same("key()", tree.key(), keys[i]);
    }
    Check.same("fields", Boards.fields(tree), "1111110000000000200022222");
    Check.state(tree, "back() behind all", tree::back);
  }
}
