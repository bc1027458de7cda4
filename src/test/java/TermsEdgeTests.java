import java.util.Random;

/**
 * The sentences of "What it is" and of the terms 1 to 3 and 5 that name an edge, something empty or
 * full, or a refusal, each with a test of its own. Those of the term 4 are in SearchTermsEdgeTests.
 */
public final class TermsEdgeTests {
  public static void main(String[] args) {
    Sentences.runAll(TermsEdgeTests.class);
  }

  // ---- What it is

  @Holds(in = "What it is", says = "An object is used for at most 512 calls")
  static void answersTillThe512thCall() {
    KindlingTree tree = new KindlingTree();
    PlainTree plain = new PlainTree();
    int calls = 0;
    while (calls < 508) {
      tree.play(calls % 3);
      tree.search(1);
      tree.teach(0, 1);
      tree.back();
      calls += 4;
    }
    plain.play(504 % 3);
    plain.search(1);
    plain.back();
    Check.same("search(1)", tree.search(1), plain.search(1));
    Check.same("go(2)", tree.go(2), plain.go(2));
    Check.same("back()", tree.back(), 0);
    Check.same("ways(3) by the call 512", tree.ways(3), 28);
  }

  @Holds(in = "What it is", says = "An object is used for at most 512 calls")
  static void answersAsDueWithTheDearestCalls() {
    KindlingTree tree = Boards.of(5, 5, "10101 01010 01020 02020 20202", 0);
    PlainTree plain = Boards.plain(5, 5, "1010101010010200202020202", 0);
    // 52 calls have laid the board
    for (int calls = 52; calls < 511; calls++) {
      tree.value(3);
    }
    Check.same("value(2) by the call 512", tree.value(2), plain.value(2));
  }

  // ---- A method that throws, and several exceptions

  /** Every call of the face that can be refused, one behind the other on a full object. */
  @Holds(in = "Terms", says = "A method that throws an exception changes nothing.")
  static void refusedCallsChangeNothing() {
    KindlingTree tree = new KindlingTree();
    tree.setUp(3, 5, 2);
    tree.weigh(7, 3, 2);
    tree.teach(1, 9);
    tree.search(3);
    tree.play(2);
    tree.play(1);
    tree.teach(0, 4);
    String before = Asked.of(tree);
    Runnable[] calls = {
      () -> tree.setUp(6, 3, 1), () -> tree.put(15, 1), () -> tree.put(3, 3),
      () -> tree.setSide(2), () -> tree.play(-1), () -> tree.weigh(51, 1, 1),
      () -> tree.weigh(1, 21, 1), () -> tree.weigh(1, 1, 11), () -> tree.setSlots(65),
      () -> tree.at(15), () -> tree.from(99), () -> tree.to(99), () -> tree.takes(99),
      () -> tree.ways(4), () -> tree.value(4), () -> tree.valueOf(0, 4), () -> tree.search(5),
      () -> tree.ofSlot(32, 0), () -> tree.ofSlot(0, 4), () -> tree.teach(0, 100), () -> tree.go(5),
      () -> tree.playOut(4, 1), () -> tree.playOut(1, 11)
    };
    for (int i = 0; i < calls.length; i++) {
      Check.yes("the call " + i + " throws", !Check.thrownBy(calls[i]).isEmpty());
    }
    Check.same("what stands behind all", Asked.of(tree), before);
    Check.same("back()", tree.back(), 1);
    Check.same("back()", tree.back(), 0);
    Check.same("told()", tree.told(), 1);
  }

  @Holds(in = "Terms",
      says = "If several exceptions apply, the one that is named first is thrown.")
  static void putNamesTheFieldFirst() {
    KindlingTree tree = new KindlingTree();
    tree.setUp(3, 5, 2);
    Check.index(tree, "put(15, 3)", () -> tree.put(15, 3));
    Check.index(tree, "put(-1, -1)", () -> tree.put(-1, -1));
    Check.index(tree, "put(15, 1) of a 7th", () -> tree.put(15, 1));
    Check.argument(tree, "put(7, 3) with 6 of each side", () -> tree.put(7, 3));
  }

  @Holds(in = "Terms",
      says = "If several exceptions apply, the one that is named first is thrown.")
  static void valueOfNamesTheMoveFirst() {
    KindlingTree tree = new KindlingTree();
    Check.index(tree, "valueOf(3, 0)", () -> tree.valueOf(3, 0));
    Check.index(tree, "valueOf(-1, 4)", () -> tree.valueOf(-1, 4));
  }

  @Holds(in = "Terms",
      says = "If several exceptions apply, the one that is named first is thrown.")
  static void searchNamesTheDepthFirst() {
    KindlingTree lost = Boards.of(3, 4, "110 000 000 012", 1);
    Check.argument(lost, "search(0) of a lost position", () -> lost.search(0));
    Check.argument(lost, "search(5) of a lost position", () -> lost.search(5));
  }

  @Holds(in = "Terms",
      says = "If several exceptions apply, the one that is named first is thrown.")
  static void ofSlotNamesTheSlotFirst() {
    KindlingTree tree = new KindlingTree();
    Check.index(tree, "ofSlot(32, 4)", () -> tree.ofSlot(32, 4));
    Check.index(tree, "ofSlot(-1, -1)", () -> tree.ofSlot(-1, -1));
  }

  @Holds(in = "Terms",
      says = "If several exceptions apply, the one that is named first is thrown.")
  static void teachNamesTheMoveThenTheWeightFirst() {
    KindlingTree tree = Boards.of(5, 4, "11111 00000 00000 00000", 0);
    Check.index(tree, "teach(-1, 0)", () -> tree.teach(-1, 0));
    for (int i = 0; i < 30; i++) {
      if (i % 5 == 0) {
        tree.put(10 + i / 5, 2);
      }
      tree.teach(i % 5, 50);
    }
    tree.setSide(1);
    int moves = tree.moves();
    Check.index(tree, "teach(moves(), 100), a 31st", () -> tree.teach(moves, 100));
    Check.index(tree, "teach(moves(), 1), a 31st", () -> tree.teach(moves, 1));
    Check.argument(tree, "teach(0, 100), a 31st", () -> tree.teach(0, 100));
    Check.argument(tree, "teach(0, 0), a 31st", () -> tree.teach(0, 0));
    Check.state(tree, "teach(0, 99), a 31st", () -> tree.teach(0, 99));
  }

  @Holds(in = "Terms",
      says = "If several exceptions apply, the one that is named first is thrown.")
  static void goNamesTheDepthFirst() {
    KindlingTree lost = Boards.of(3, 4, "110 000 000 012", 1);
    Check.argument(lost, "go(0) of a lost position", () -> lost.go(0));
    Check.argument(lost, "go(5) of a lost position", () -> lost.go(5));
  }

  // ---- 1 THE GAME

  @Holds(in = "Terms 1", says = "A BOARD has 3 to 5 columns and 3 to 5 rows of FIELDS")
  static void boardsOfEachSize() {
    for (int size = 0; size < 49; size++) {
      int columns = size % 7;
      int rows = size / 7;
      KindlingTree tree = new KindlingTree();
      boolean isOne = columns >= 3 && columns <= 5 && rows >= 3 && rows <= 5;
      Check.same("setUp(" + columns + ", " + rows + ", 1) throws",
          Check.thrownBy(() -> tree.setUp(columns, rows, 1)),
          isOne ? "" : "IllegalArgumentException");
    }
  }

  @Holds(in = "Terms 1",
      says = "the one in the column c and the row r has the number r * columns + c")
  static void fieldsInTheCorners() {
    KindlingTree tree = new KindlingTree();
    tree.setUp(4, 5, 1);
    Check.same("at(3)", tree.at(3), 1);
    Check.same("at(4)", tree.at(4), 0);
    Check.same("at(15)", tree.at(15), 0);
    Check.same("at(16)", tree.at(16), 2);
    Check.same("at(19)", tree.at(19), 2);
    Check.index(tree, "at(20)", () -> tree.at(20));
  }

  @Holds(in = "Terms 1", says = "a side has at most 6 pawns")
  static void sixPawnsOfEachSide() {
    KindlingTree tree = new KindlingTree();
    tree.setUp(4, 5, 1);
    Check.same("put() of the 5th", tree.put(5, 1), 0);
    Check.same("put() of the 6th", tree.put(6, 1), 0);
    Check.state(tree, "put() of the 7th", () -> tree.put(7, 1));
    Check.same("put() of the 5th of the other side", tree.put(13, 2), 0);
    Check.same("put() of the 6th of the other side", tree.put(14, 2), 0);
    Check.state(tree, "put() of the 7th of the other side", () -> tree.put(15, 2));
  }

  @Holds(in = "Terms 1", says = "Pawns of the side 0 go to the row above theirs")
  static void noStepsOutOfTheBoard() {
    KindlingTree up = Boards.of(3, 3, "000 100 011", 0);
    Check.same("moves of the side 0", Boards.moves(up), "3-6");
    KindlingTree down = Boards.of(3, 3, "022 200 000", 1);
    Check.same("moves of the side 1", Boards.moves(down), "3-0");
  }

  @Holds(in = "Terms 1", says = "to the FIELD of the same column, if it is empty")
  static void noStepsAheadOntoAPawn() {
    KindlingTree tree = Boards.of(3, 4, "100 100 200 000", 0);
    Check.yes("lost, as both are blocked", tree.isLost());
    tree.put(6, 0);
    Check.same("moves", Boards.moves(tree), "3-6");
    tree.put(3, 2);
    Check.yes("lost, as nothing is taken ahead", tree.isLost());
  }

  @Holds(in = "Terms 1",
      says = "or to one of a column beside it, if a pawn of the other side is there")
  static void noStepsAsideOntoNothingOrOneOfTheSide() {
    KindlingTree tree = Boards.of(3, 4, "010 101 000 000", 0);
    Check.same("moves beside the own side", Boards.moves(tree), "1-4 3-6 5-8");
    Boards.lay(tree, 3, 4, "010 202 000 000", 0);
    Check.same("moves beside the other side", Boards.moves(tree), "1x3 1-4 1x5");
  }

  /** The field behind the last column has the number of the first one in the next row. */
  @Holds(in = "Terms 1", says = "to one of a column beside it")
  static void noStepsRoundTheEdges() {
    KindlingTree tree = Boards.of(3, 4, "001 000 200 000", 0);
    Check.same("moves at the right edge", Boards.moves(tree), "2-5");
    Boards.lay(tree, 3, 4, "000 102 000 000", 0);
    Check.same("moves at the left edge", Boards.moves(tree), "3-6");
    Boards.lay(tree, 3, 4, "000 001 000 200", 1);
    Check.same("moves of the side 1 at the left edge", Boards.moves(tree), "9-6");
    Boards.lay(tree, 3, 4, "000 000 102 000", 1);
    Check.same("moves of the side 1 at the right edge", Boards.moves(tree), "8-5");
  }

  @Holds(in = "Terms 1", says = "Behind one it is the other side's turn.")
  static void turnsBehindTheLastMove() {
    KindlingTree tree = Boards.of(3, 4, "100 000 010 200", 0);
    Boards.play(tree, 7, 10);
    Check.same("side()", tree.side(), 1);
    Check.yes("lost", tree.isLost());
  }

  @Holds(in = "Terms 1",
      says = "if a pawn of the other side is in the last row that it can come to")
  static void lostByAPawnInEachFieldOfTheLastRow() {
    for (int column = 0; column < 5; column++) {
      KindlingTree tree = Boards.of(5, 3, "00000 20100 00000", 1);
      tree.put(10 + column, 1);
      Check.yes("lost for the side 1 by " + (10 + column), tree.isLost());
      tree.put(10 + column, 0);
      Check.no("lost without it", tree.isLost());
      tree.setSide(0);
      tree.put(column, 2);
      Check.yes("lost for the side 0 by " + column, tree.isLost());
      tree.put(column, 0);
      Check.no("lost without it", tree.isLost());
    }
  }

  @Holds(in = "Terms 1",
      says = "(the row rows - 1 for the side 0, the row 0 for the side 1)")
  static void notLostByAPawnOneRowBefore() {
    for (int rows = 3; rows <= 5; rows++) {
      KindlingTree tree = new KindlingTree();
      tree.setUp(4, rows, 1);
      int field = 4 * (rows - 2);
      tree.put(field, 0);
      tree.put(field, 1);
      tree.setSide(1);
      Check.no("lost by one in the row " + (rows - 2), tree.isLost());
      tree.put(field + 4, 1);
      Check.yes("lost by one in the row " + (rows - 1), tree.isLost());
      tree.setUp(4, rows, 1);
      tree.put(7, 2);
      Check.no("lost by one in the row 1", tree.isLost());
      tree.put(3, 2);
      Check.yes("lost by one in the row 0", tree.isLost());
    }
  }

  @Holds(in = "Terms 1", says = "if a pawn of the other side is in the last row")
  static void notLostByAPawnOfItsOwn() {
    KindlingTree tree = Boards.of(3, 3, "100 000 001", 0);
    Check.no("lost for the side 0", tree.isLost());
    Boards.lay(tree, 3, 3, "200 000 002", 1);
    Check.no("lost for the side 1", tree.isLost());
  }

  /** Pawns in the first row of their side are in the last one of the other side. */
  @Holds(in = "Terms 1", says = "if a pawn of the other side is in the last row")
  static void notLostByPawnsInTheirFirstRow() {
    KindlingTree tree = Boards.of(3, 3, "001 000 200", 0);
    Check.no("lost for the side 0", tree.isLost());
    tree.setSide(1);
    Check.no("lost for the side 1", tree.isLost());
  }

  @Holds(in = "Terms 1", says = "or if the side that is to move has no STEPS")
  static void lostWithoutSteps() {
    KindlingTree tree = Boards.of(3, 4, "000 100 200 000", 0);
    Check.yes("lost for the side 0, which is blocked", tree.isLost());
    tree.setSide(1);
    Check.yes("lost for the side 1, which is blocked", tree.isLost());
    tree.put(1, 1);
    tree.setSide(0);
    Check.no("lost with another pawn", tree.isLost());
    tree.setSide(1);
    Check.yes("lost with another pawn of the other side", tree.isLost());
  }

  @Holds(in = "Terms 1", says = "or if the side that is to move has no STEPS")
  static void lostWithoutPawns() {
    KindlingTree tree = Boards.of(3, 3, "000 010 000", 0);
    Check.no("lost for the side 0", tree.isLost());
    tree.setSide(1);
    Check.yes("lost for the side 1, which has none", tree.isLost());
    tree.put(4, 0);
    Check.yes("lost on an empty board", tree.isLost());
    tree.setSide(0);
    Check.yes("lost on an empty board", tree.isLost());
  }

  @Holds(in = "Terms 1", says = "or if the side that is to move has no STEPS")
  static void lostWithPawnsInTheLastRowAlone() {
    KindlingTree tree = Boards.of(3, 3, "000 000 111", 0);
    Check.yes("lost for the side 0", tree.isLost());
    Boards.lay(tree, 3, 3, "222 000 000", 1);
    Check.yes("lost for the side 1", tree.isLost());
  }

  @Holds(in = "Terms 1",
      says = "numbered from 0 by the FIELD from which they go, then by the one to which they go")
  static void movesByTheirNumbers() {
    KindlingTree tree = Boards.of(4, 4, "0010 0102 2020 0000", 0);
    Check.same("moves of the side 0", Boards.moves(tree), "2-6 2x7 5x8 5-9 5x10");
    Boards.lay(tree, 4, 4, "0000 0101 1020 0002", 1);
    Check.same("moves of the side 1", Boards.moves(tree), "10x5 10-6 10x7 15-11");
  }

  @Holds(in = "Terms 1", says = "a POSITION that is LOST has none")
  static void noMovesOfALostPosition() {
    KindlingTree tree = Boards.of(3, 4, "110 000 000 012", 1);
    Check.same("moves()", tree.moves(), 0);
    Check.index(tree, "from(0)", () -> tree.from(0));
    Boards.lay(tree, 3, 4, "012 000 000 022", 0);
    Check.same("moves()", tree.moves(), 0);
    tree.setSide(1);
    Check.same("moves() of the other side", tree.moves(), 2);
  }

  // ---- 2 EVALUATION

  @Holds(in = "Terms 2",
      says = "m (0 to 50; 10, at first), a (0 to 20; 2) and f (0 to 10; 1)")
  static void weightsAtFirst() {
    // a pawn more, on a row 1, with a step
    KindlingTree tree = Boards.of(3, 4, "000 100 000 000", 0);
    Check.same("evaluation()", tree.evaluation(), 10 + 2 + 1);
    Check.same("weigh(10, 2, 1)", tree.weigh(10, 2, 1), 10 + 2 + 1);
  }

  @Holds(in = "Terms 2", says = "m (0 to 50; 10, at first), a (0 to 20; 2) and f (0 to 10; 1)")
  static void weightsAtTheirBounds() {
    KindlingTree tree = Boards.of(3, 4, "000 100 000 000", 0);
    Check.same("weigh(0, 0, 0)", tree.weigh(0, 0, 0), 0);
    Check.same("weigh(50, 0, 0)", tree.weigh(50, 0, 0), 50);
    Check.same("weigh(0, 20, 0)", tree.weigh(0, 20, 0), 20);
    Check.same("weigh(0, 0, 10)", tree.weigh(0, 0, 10), 10);
    Check.same("weigh(50, 20, 10)", tree.weigh(50, 20, 10), 80);
  }

  @Holds(in = "Terms 2",
      says = "all rows that its pawns have gone from the first row of their side")
  static void rowsGoneFromTheFirstToTheLast() {
    for (int row = 0; row < 5; row++) {
      KindlingTree tree = Boards.of(3, 5, "000 000 000 000 000", 0);
      tree.put(3 * row, 1);
      Check.same("of the side 0 in the row " + row, tree.weigh(0, 1, 0), row);
      tree.put(3 * row, 2);
      Check.same("of the side 1 in the row " + row, tree.weigh(0, 1, 0), row - 4);
    }
  }

  @Holds(in = "Terms 2", says = "how many STEPS it has, less how many the other side has")
  static void stepsAtTheEdges() {
    KindlingTree tree = Boards.of(3, 4, "010 202 000 011", 0);
    tree.weigh(0, 0, 1);
    // 1x3 1-4 1x5 of the side 0, none in the last row; 3-0 3x1 5x1 5-2 of the side 1
    Check.same("evaluation()", tree.evaluation(), 3 - 4);
  }

  @Holds(in = "Terms 2", says = "whether the POSITION is LOST or not")
  static void stepsOfALostPosition() {
    KindlingTree tree = Boards.of(3, 4, "110 000 000 012", 1);
    Check.yes("lost", tree.isLost());
    Check.same("weigh(0, 0, 10)", tree.weigh(0, 0, 10), 10 - 20);
    tree.setSide(0);
    Check.same("evaluation() of the other side", tree.evaluation(), 20 - 10);
    Boards.lay(tree, 3, 4, "001 100 200 000", 1);
    Check.yes("lost without steps", tree.isLost());
    Check.same("evaluation()", tree.evaluation(), -10);
  }

  // ---- 3 VALUES

  @Holds(in = "Terms 3", says = "if it is LOST, - 1000 - d")
  static void valueOfALostPosition() {
    KindlingTree through = Boards.of(3, 4, "110 000 000 012", 1);
    KindlingTree blocked = Boards.of(3, 4, "000 100 200 000", 0);
    for (int depth = 0; depth <= 3; depth++) {
      Check.same("value(" + depth + ")", through.value(depth), -1000 - depth);
      Check.same("value(" + depth + ") without steps", blocked.value(depth), -1000 - depth);
    }
  }

  @Holds(in = "Terms 3", says = "otherwise the greatest one of - VALUE with the depth d - 1")
  static void valueAheadOfALostPosition() {
    KindlingTree win = Boards.of(3, 4, "100 000 010 200", 0);
    Check.same("value(1) of a win by one move", win.value(1), 1000);
    Check.same("value(2) of a win by one move", win.value(2), 1001);
    Check.same("value(3) of a win by one move", win.value(3), 1002);
    // 11-8 is all that it has, and 4x8 takes its last pawn
    KindlingTree loss = Boards.of(3, 4, "000 010 000 002", 1);
    Check.same("moves", Boards.moves(loss), "11-8");
    Check.same("value(1) of a loss by two", loss.value(1), -1000);
    Check.same("value(2) of a loss by two", loss.value(2), -1000);
    Check.same("value(3) of a loss by two", loss.value(3), -1001);
  }

  /** With 3 the last taking is not seen (0 comes out), with 4 it is. */
  @Holds(in = "Terms 3", says = "otherwise, if d is 0, its QUIET value with 4")
  static void quietGoesFourDeep() {
    KindlingTree tree = Boards.of(4, 4, "0000 1010 0200 2020", 0);
    tree.weigh(10, 0, 0);
    Check.same("value(0)", tree.value(0), -10);
  }

  /** With 5 another taking is seen (10 comes out), with 4 it is not. */
  @Holds(in = "Terms 3", says = "or t is 0, its EVALUATION")
  static void quietGoesNoDeeperThanFour() {
    KindlingTree tree = Boards.of(3, 5, "000 010 201 010 202", 1);
    tree.weigh(10, 0, 0);
    Check.same("value(0)", tree.value(0), 0);
  }

  /** The one move that takes wins at once; the depth does not count in it. */
  @Holds(in = "Terms 3", says = "The QUIET value with t: if it is LOST, - 1000")
  static void quietValueOfALostPosition() {
    KindlingTree tree = Boards.of(3, 3, "000 010 002", 0);
    Check.same("value(0) ahead of a taking that wins", tree.value(0), 1000);
    tree.setQuiet(false);
    KindlingTree lost = Boards.of(3, 4, "000 100 200 000", 0);
    Check.same("value(0) of a lost one", lost.value(0), -1000);
    lost.setQuiet(false);
    Check.same("value(0) of a lost one without quiet search", lost.value(0), -1000);
  }

  @Holds(in = "Terms 3", says = "if quiet search is off, or t is 0, its EVALUATION")
  static void quietSearchThatIsOff() {
    KindlingTree tree = Boards.of(3, 3, "000 010 002", 0);
    tree.setQuiet(false);
    // both have a pawn, the side 0 a row more; 4-7 4x8 and 8x4 8-5
    Check.same("value(0)", tree.value(0), 2);
  }

  @Holds(in = "Terms 3", says = "otherwise the greatest one of its EVALUATION")
  static void quietNeedNotTake() {
    // 7x11 wins the one row of that pawn, and 13x11 the three rows of this one
    KindlingTree tree = Boards.of(3, 5, "100 000 010 002 020", 0);
    Check.same("weigh(0, 1, 0)", tree.weigh(0, 1, 0), 2 - 1);
    Check.same("value(0)", tree.value(0), 1);
    tree.put(13, 0);
    tree.put(12, 2);
    Check.same("value(0) where it is not taken back", tree.value(0), 3);
  }

  @Holds(in = "Terms 3", says = "over the POSITIONS behind those MOVES by which something is TAKEN")
  static void quietLooksAtTakingAlone() {
    // 10-13 wins, but takes nothing
    KindlingTree tree = Boards.of(3, 5, "000 000 002 010 000", 0);
    tree.weigh(10, 0, 0);
    Check.same("moves", Boards.moves(tree), "10-13");
    Check.same("value(0)", tree.value(0), 0);
    Check.same("value(1)", tree.value(1), 1000);
  }

  @Holds(in = "Terms 3", says = "(Quiet search is on, at first.)")
  static void quietSearchAtFirst() {
    KindlingTree tree = Boards.of(3, 3, "000 010 002", 0);
    Check.same("value(0)", tree.value(0), 1000);
    Check.yes("setQuiet(true)", tree.setQuiet(true));
  }

  // ---- 5 THE BOOK

  @Holds(in = "Terms 5", says = "THE BOOK has at most 30 entries")
  static void thirtyEntries() {
    KindlingTree tree = Boards.of(5, 4, "11111 00000 00000 00000", 0);
    for (int i = 0; i < 30; i++) {
      if (i % 5 == 0) {
        tree.put(10 + i / 5, 2);
      }
      Check.same("teach()", tree.teach(i % 5, 1 + i), i + 1);
    }
    tree.setSide(1);
    Check.state(tree, "teach() of a 31st", () -> tree.teach(0, 1));
    Check.same("pages()", tree.pages(), 30);
  }

  @Holds(in = "Terms 5", says = "and a weight (1 to 99)")
  static void weightsOfTheBook() {
    KindlingTree tree = new KindlingTree();
    Check.same("teach(2, 1)", tree.teach(2, 1), 1);
    Check.same("told() by the weight 1", tree.told(), 2);
    Check.same("teach(1, 98)", tree.teach(1, 98), 2);
    Check.same("teach(2, 99)", tree.teach(2, 99), 2);
    Check.same("told() by the weight 99", tree.told(), 2);
    Check.argument(tree, "teach(1, 100)", () -> tree.teach(1, 100));
    Check.argument(tree, "teach(2, 0)", () -> tree.teach(2, 0));
  }

  /** 1-5 takes on both boards; on that with 5 columns the pawn on 4 is in the last row. */
  @Holds(in = "Terms 5", says = "For a POSITION that is not LOST it tells")
  static void bookTellsNothingOfALostPosition() {
    KindlingTree tree = Boards.of(3, 5, "010 022 000 000 000", 0);
    long key = tree.key();
    Check.same("moves", Boards.moves(tree), "1x5");
    tree.teach(0, 50);
    Boards.lay(tree, 5, 3, "01002 20000 00000", 0);
    Check.same("key()", tree.key(), key);
    Check.yes("lost", tree.isLost());
    Check.same("told()", tree.told(), -1);
    Boards.lay(tree, 3, 5, "010 022 000 000 000", 0);
    Check.same("told() where it is not lost", tree.told(), 0);
  }

  @Holds(in = "Terms 5", says = "of those entries with its KEY that are MOVES of it")
  static void bookTellsNoMoveOfAnotherBoard() {
    KindlingTree tree = Boards.of(3, 3, "000 001 200", 0);
    long key = tree.key();
    tree.teach(0, 50);
    Boards.lay(tree, 3, 4, "000 000 001 200", 0);
    Check.same("key()", tree.key(), key);
    Check.same("moves", Boards.moves(tree), "8-11");
    Check.same("told()", tree.told(), -1);
    Check.same("teach() of another one with this key", tree.teach(0, 1), 2);
    Check.same("told()", tree.told(), 0);
  }

  /** 2324611498 and 191303172522 are the same number in 32 bits; 5-10 is a move of both. */
  @Holds(in = "Terms 5", says = "of those entries with its KEY")
  static void bookTellsNothingForAKeyThatIsTheSameIn32Bits() {
    KindlingTree tree = Boards.of(5, 5, "00000 10000 00000 20202 02002", 0);
    long key = tree.key();
    tree.teach(Boards.move(tree, 5, 10), 50);
    Boards.change(tree, "01000 10220 01010 00010 00000");
    Check.yes("another key", tree.key() != key && (int) tree.key() == (int) key);
    Check.same("told()", tree.told(), -1);
    int move = Boards.move(tree, 5, 10);
    Check.same("teach() of another position", tree.teach(move, 50), 2);
    Check.same("told()", tree.told(), move);
  }

  @Holds(in = "Terms 5", says = "the one with the greatest weight")
  static void bookTellsTheGreatestWeight() {
    KindlingTree tree = new KindlingTree();
    tree.teach(0, 98);
    tree.teach(1, 99);
    tree.teach(2, 97);
    Check.same("told()", tree.told(), 1);
  }

  @Holds(in = "Terms 5", says = "of several the one whose MOVE has the smallest number")
  static void bookTellsTheSmallestNumberOfEqualWeights() {
    KindlingTree tree = new KindlingTree();
    tree.teach(2, 99);
    tree.teach(1, 99);
    Check.same("told()", tree.told(), 1);
    tree.teach(0, 99);
    Check.same("told()", tree.told(), 0);
  }

  /** All the sizes, each with some positions: what PlainTree says of steps and of the end. */
  @Holds(in = "Terms 1", says = "All such goings of the pawns of a side are its STEPS.")
  static void stepsOnEachSize() {
    Random random = new Random(61);
    for (int i = 0; i < 270; i++) {
      int columns = 3 + i % 3;
      int rows = 3 + i / 3 % 3;
      String fields = Randoms.fields(random, columns, rows);
      KindlingTree tree = Boards.of(columns, rows, fields, i % 2);
      PlainTree plain = Boards.plain(columns, rows, fields, i % 2);
      StringBuilder due = new StringBuilder();
      for (int[] move : plain.now.moves()) {
        due.append(due.length() == 0 ? "" : " ").append(move[0]);
        due.append(plain.now.takes(move) ? 'x' : '-').append(move[1]);
      }
      Check.same("moves of " + fields, Boards.moves(tree), due.toString());
      Check.yes("lost is right of " + fields, tree.isLost() == plain.now.isLost());
    }
  }
}
