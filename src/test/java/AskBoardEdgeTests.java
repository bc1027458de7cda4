/** Promises 11 to 23, a test for each sentence that names an edge, something empty or a refusal. */
public final class AskBoardEdgeTests {
  private static final int FAR = Integer.MAX_VALUE;
  private static final int FAR_BELOW = Integer.MIN_VALUE;

  public static void main(String[] args) {
    Sentences.runAll(AskBoardEdgeTests.class);
  }

  /** Lost for the side 1, which has a step. */
  private static KindlingTree lost() {
    return Boards.of(3, 4, "110 000 000 012", 1);
  }

  // ---- Promises 11 to 15: columns, rows, at, side, played

  @Holds(in = "Promise 11", says = "Returns how many columns it has")
  static void columnsOfTheSmallestAndTheLargest() {
    KindlingTree tree = new KindlingTree();
    tree.setUp(5, 3, 1);
    Check.same("columns()", tree.columns(), 5);
    tree.setUp(3, 5, 1);
    Check.same("columns()", tree.columns(), 3);
  }

  @Holds(in = "Promise 12", says = "Returns how many rows it has")
  static void rowsOfTheSmallestAndTheLargest() {
    KindlingTree tree = new KindlingTree();
    tree.setUp(3, 5, 1);
    Check.same("rows()", tree.rows(), 5);
    tree.setUp(5, 3, 1);
    Check.same("rows()", tree.rows(), 3);
  }

  @Holds(in = "Promise 13", says = "Throws `IndexOutOfBoundsException` if there is no such FIELD")
  static void atNoField() {
    KindlingTree tree = new KindlingTree();
    tree.setUp(5, 5, 1);
    Check.same("at(0)", tree.at(0), 1);
    Check.same("at(24)", tree.at(24), 2);
    Check.index(tree, "at(-1)", () -> tree.at(-1));
    Check.index(tree, "at(25)", () -> tree.at(25));
    Check.index(tree, "at(far)", () -> tree.at(FAR));
    Check.index(tree, "at(far below)", () -> tree.at(FAR_BELOW));
  }

  @Holds(in = "Promise 13", says = "Throws `IndexOutOfBoundsException` if there is no such FIELD")
  static void atAFieldOfALargerBoard() {
    KindlingTree tree = new KindlingTree();
    tree.setUp(5, 5, 1);
    tree.setUp(4, 3, 1);
    Check.same("at(11)", tree.at(11), 2);
    Check.index(tree, "at(12)", () -> tree.at(12));
    Check.index(tree, "at(24)", () -> tree.at(24));
  }

  @Holds(in = "Promise 14", says = "Returns the side that is to move")
  static void sideOfALostPosition() {
    Check.same("side()", lost().side(), 1);
  }

  @Holds(in = "Promise 15", says = "Returns how many MOVES were played that can be taken back")
  static void playedWithNothingToTakeBack() {
    KindlingTree tree = new KindlingTree();
    Check.same("played() of a new one", tree.played(), 0);
    tree.play(0);
    Check.same("played()", tree.played(), 1);
    tree.back();
    Check.same("played() behind back()", tree.played(), 0);
    tree.play(0);
    tree.put(0, 0);
    Check.same("played() behind put()", tree.played(), 0);
    tree.play(0);
    tree.setSide(0);
    Check.same("played() behind setSide()", tree.played(), 0);
    tree.play(0);
    tree.setUp(3, 3, 1);
    Check.same("played() behind setUp()", tree.played(), 0);
  }

  // ---- Promises 16 to 20: moves, from, to, takes, isLost

  @Holds(in = "Promise 16", says = "Returns how many MOVES there are")
  static void movesOfALostPosition() {
    Check.same("moves() of a lost one with steps", lost().moves(), 0);
    Check.same("moves() without steps", Boards.of(3, 4, "000 100 200 000", 0).moves(), 0);
  }

  /** Each of the six pawns of the side 0 has three steps but for those at the edges. */
  @Holds(in = "Promise 16", says = "Returns how many MOVES there are")
  static void movesOfManyPawns() {
    KindlingTree tree = Boards.of(5, 5, "00000 10101 02020 10101 02020", 0);
    Check.same("moves()", tree.moves(), 2 + 3 + 2 + 2 + 3 + 2);
    Check.same("from(13)", tree.from(13), 19);
    Check.same("to(13)", tree.to(13), 24);
  }

  @Holds(in = "Promise 17", says = "Throws `IndexOutOfBoundsException` if there is no such MOVE")
  static void fromOfNoMove() {
    KindlingTree tree = new KindlingTree();
    Check.same("from(2)", tree.from(2), 2);
    Check.index(tree, "from(3)", () -> tree.from(3));
    Check.index(tree, "from(-1)", () -> tree.from(-1));
    Check.index(tree, "from(far)", () -> tree.from(FAR));
    Check.index(tree, "from(far below)", () -> tree.from(FAR_BELOW));
    KindlingTree lost = lost();
    Check.index(lost, "from(0) of a lost position", () -> lost.from(0));
  }

  @Holds(in = "Promise 18", says = "Throws `IndexOutOfBoundsException` if there is no such MOVE")
  static void toOfNoMove() {
    KindlingTree tree = new KindlingTree();
    Check.same("to(2)", tree.to(2), 5);
    Check.index(tree, "to(3)", () -> tree.to(3));
    Check.index(tree, "to(-1)", () -> tree.to(-1));
    Check.index(tree, "to(far)", () -> tree.to(FAR));
    Check.index(tree, "to(far below)", () -> tree.to(FAR_BELOW));
    KindlingTree lost = lost();
    Check.index(lost, "to(0) of a lost position", () -> lost.to(0));
  }

  @Holds(in = "Promise 19", says = "Throws `IndexOutOfBoundsException` if there is no such MOVE")
  static void takesOfNoMove() {
    KindlingTree tree = Boards.of(3, 3, "010 002 000", 0);
    Check.no("takes(0)", tree.takes(0));
    Check.yes("takes(1)", tree.takes(1));
    Check.index(tree, "takes(2)", () -> tree.takes(2));
    Check.index(tree, "takes(-1)", () -> tree.takes(-1));
    Check.index(tree, "takes(far)", () -> tree.takes(FAR));
    Check.index(tree, "takes(far below)", () -> tree.takes(FAR_BELOW));
    KindlingTree lost = lost();
    Check.index(lost, "takes(0) of a lost position", () -> lost.takes(0));
  }

  @Holds(in = "Promise 20", says = "Returns whether the POSITION is LOST")
  static void isLostAfterTheLastMove() {
    KindlingTree tree = Boards.of(3, 3, "000 010 202", 0);
    Check.no("lost", tree.isLost());
    Boards.play(tree, 4, 7);
    Check.yes("lost behind a move to the last row", tree.isLost());
    tree.back();
    Check.no("lost behind back()", tree.isLost());
    Boards.lay(tree, 3, 3, "010 002 000", 0);
    Boards.play(tree, 1, 5);
    Check.yes("lost behind the last pawn is taken", tree.isLost());
  }

  // ---- Promises 21 to 23: key, evaluation, ways

  @Holds(in = "Promise 21", says = "Returns the KEY of the POSITION")
  static void keyOfAnEmptyBoard() {
    KindlingTree tree = Boards.of(5, 5, "00000 00000 00000 00000 00000", 0);
    Check.same("key() for the side 0", tree.key(), 0);
    tree.setSide(1);
    Check.same("key() for the side 1", tree.key(), 1);
  }

  /** 2 * 728 * 3^19 + 1, far more than 32 bits hold. */
  @Holds(in = "Promise 21", says = "Returns the KEY of the POSITION")
  static void keyThatIsTheGreatest() {
    KindlingTree tree = Boards.of(5, 5, "22222 20000 00000 00000 00000", 1);
    Check.same("key()", tree.key(), 1692252695953L);
  }

  @Holds(in = "Promise 22", says = "Returns its EVALUATION")
  static void evaluationOfAnEmptyBoard() {
    Check.same("evaluation()", Boards.of(3, 3, "000 000 000", 0).evaluation(), 0);
  }

  @Holds(in = "Promise 22", says = "Returns its EVALUATION")
  static void evaluationThatIsTheGreatest() {
    KindlingTree tree = Boards.of(5, 5, "00000 00000 00000 10000 11111", 0);
    tree.weigh(50, 20, 10);
    // the pawn behind another one of its side has no step
    Check.same("evaluation() for the side 0", tree.evaluation(), 6 * 50 + 23 * 20);
    tree.setSide(1);
    Check.same("evaluation() for the side 1", tree.evaluation(), -760);
  }

  @Holds(in = "Promise 23", says = "Throws `IllegalArgumentException` if depth is not 0 to 3")
  static void waysTooDeep() {
    KindlingTree tree = new KindlingTree();
    Check.argument(tree, "ways(4)", () -> tree.ways(4));
    Check.argument(tree, "ways(far)", () -> tree.ways(FAR));
    Check.same("ways(3)", tree.ways(3), 28);
  }

  @Holds(in = "Promise 23", says = "Throws `IllegalArgumentException` if depth is not 0 to 3")
  static void waysNotDeepEnough() {
    KindlingTree tree = new KindlingTree();
    Check.argument(tree, "ways(-1)", () -> tree.ways(-1));
    Check.argument(tree, "ways(far below)", () -> tree.ways(FAR_BELOW));
    Check.same("ways(0)", tree.ways(0), 1);
  }

  @Holds(in = "Promise 23", says = "1 for the depth 0")
  static void waysOfTheDepth0() {
    Check.same("ways(0)", Boards.of(4, 4, "1111 0000 0000 2222", 1).ways(0), 1);
    Check.same("ways(0) of a lost one with steps", lost().ways(0), 1);
    Check.same("ways(0) of an empty board", Boards.of(3, 3, "000 000 000", 0).ways(0), 1);
  }

  @Holds(in = "Promise 23", says = "with another one 0, if the POSITION is LOST")
  static void waysOfALostPosition() {
    for (int depth = 1; depth <= 3; depth++) {
      Check.same("ways(" + depth + ") of a lost one with steps", lost().ways(depth), 0);
      Check.same("ways(" + depth + ") without steps",
          Boards.of(3, 4, "000 100 200 000", 0).ways(depth), 0);
    }
  }

  @Holds(in = "Promise 23", says = "rows of so many MOVES, one behind the other")
  static void waysThatEndEarlyDoNotCount() {
    // behind 4-7 and 4x8 the game has ended, behind 0-3 it goes on with 8x4 and 8-5
    KindlingTree tree = Boards.of(3, 3, "100 010 002", 0);
    Check.same("moves", Boards.moves(tree), "0-3 4-7 4x8");
    Check.same("ways(1)", tree.ways(1), 3);
    Check.same("ways(2)", tree.ways(2), 2);
  }
}
