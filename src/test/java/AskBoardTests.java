/** Promises 11 to 23: what is asked of the board. */
public final class AskBoardTests {
  public static void main(String[] args) {
    sizes();
    at();
    sideAndPlayed();
    movesInOrder();
    movesAtTheEdges();
    movesRefuse();
    isLostByTheLastRow();
    isLostWithoutSteps();
    key();
    evaluation();
    evaluationCountsStepsOfLostOnes();
    ways();
    Check.end("AskBoardTests");
  }

  private static void sizes() {
    KindlingTree tree = new KindlingTree();
    for (int columns = 3; columns <= 5; columns++) {
      for (int rows = 3; rows <= 5; rows++) {
        tree.setUp(columns, rows, 1);
        Check.same("columns()", tree.columns(), columns);
        Check.same("rows()", tree.rows(), rows);
      }
    }
  }

  private static void at() {
    KindlingTree tree = Boards.of(4, 3, "1002 0120 2001", 0);
    int[] due = {1, 0, 0, 2, 0, 1, 2, 0, 2, 0, 0, 1};
    for (int field = 0; field < due.length; field++) {
      Check.same("at(" + field + ")", tree.at(field), due[field]);
    }
    Check.index(tree, "at(12)", () -> tree.at(12));
    Check.index(tree, "at(-1)", () -> tree.at(-1));
    Check.index(tree, "at(24)", () -> tree.at(24));
    Check.index(tree, "at(far)", () -> tree.at(Integer.MAX_VALUE));
    tree.setUp(5, 5, 1);
    Check.same("at(24)", tree.at(24), 2);
    Check.index(tree, "at(25)", () -> tree.at(25));
    tree.setUp(3, 3, 1);
    Check.index(tree, "at(9) behind a larger board", () -> tree.at(9));
  }

  private static void sideAndPlayed() {
    KindlingTree tree = new KindlingTree();
    tree.setUp(4, 4, 1);
    for (int i = 0; i < 4; i++) {
      Check.same("side()", tree.side(), i % 2);
      Check.same("played()", tree.played(), i);
      tree.play(0);
    }
    tree.back();
    Check.same("side() behind back()", tree.side(), 1);
    Check.same("played() behind back()", tree.played(), 3);
  }

  private static void movesInOrder() {
    KindlingTree tree = Boards.of(5, 4, "01000 00010 02202 20000", 0);
    Check.same("moves of the side 0", Boards.moves(tree), "1-6 8x12 8-13 8x14");
    Check.same("moves()", tree.moves(), 4);
    tree.setSide(1);
    Check.same("moves of the side 1", Boards.moves(tree), "11-6 12-7 12x8 14x8 14-9 15-10");
    Check.same("moves()", tree.moves(), 6);
    Check.same("from(2)", tree.from(2), 12);
    Check.same("to(2)", tree.to(2), 8);
    Check.yes("takes(2)", tree.takes(2));
    Check.no("takes(1)", tree.takes(1));
  }

  private static void movesAtTheEdges() {
    // no going round from one edge to the other, none over pawns of the own side
    KindlingTree tree = Boards.of(3, 4, "001 200 002 000", 0);
    Check.same("moves at the right edge", Boards.moves(tree), "2-5");
    tree.setSide(1);
    Check.same("moves of the other side", Boards.moves(tree), "3-0 8-5");
    Boards.lay(tree, 3, 4, "100 002 200 000", 0);
    Check.same("moves at the left edge", Boards.moves(tree), "0-3");
    Boards.lay(tree, 3, 4, "010 111 000 000", 0);
    Check.same("moves over the own side", Boards.moves(tree), "3-6 4-7 5-8");
    Boards.lay(tree, 3, 3, "000 010 111", 0);
    Check.same("moves from the last row", tree.moves(), 0);
    Boards.lay(tree, 3, 4, "000 010 202 010", 0);
    Check.same("a pawn in its last row has no steps", Boards.moves(tree), "4x6 4-7 4x8");
    Boards.lay(tree, 3, 3, "000 111 222", 0);
    Check.same("blocked, but for what can be taken", Boards.moves(tree), "3x7 4x6 4x8 5x7");
  }

  private static void movesRefuse() {
    int[] bad = {-1, 3, 18, Integer.MAX_VALUE, Integer.MIN_VALUE};
    for (int move : bad) {
      KindlingTree tree = new KindlingTree();
      Check.index(tree, "from(" + move + ")", () -> tree.from(move));
      Check.index(tree, "to(" + move + ")", () -> tree.to(move));
      Check.index(tree, "takes(" + move + ")", () -> tree.takes(move));
    }
    KindlingTree lost = Boards.of(3, 3, "110 000 012", 1);
    Check.same("moves() of a lost position", lost.moves(), 0);
    Check.index(lost, "from(0) of a lost position", () -> lost.from(0));
    Check.index(lost, "to(0) of a lost position", () -> lost.to(0));
    Check.index(lost, "takes(0) of a lost position", () -> lost.takes(0));
  }

  private static void isLostByTheLastRow() {
    KindlingTree tree = Boards.of(3, 4, "110 000 000 012", 1);
    Check.yes("lost for the side 1, with steps", tree.isLost());
    tree.setSide(0);
    Check.no("lost for the side 0, whose pawn that is", tree.isLost());
    Boards.lay(tree, 3, 4, "012 000 000 022", 0);
    Check.yes("lost for the side 0", tree.isLost());
    tree.setSide(1);
    Check.no("lost for the side 1", tree.isLost());
    Boards.lay(tree, 3, 4, "100 000 010 200", 1);
    Check.no("lost, one row before", tree.isLost());
    Boards.lay(tree, 5, 3, "10000 00000 20001", 1);
    Check.yes("lost by the last column", tree.isLost());
    Boards.lay(tree, 5, 3, "20000 00000 00001", 0);
    Check.yes("lost by the first column", tree.isLost());
    tree.setUp(3, 3, 1);
    Check.no("a new position is lost", tree.isLost());
  }

  private static void isLostWithoutSteps() {
    KindlingTree tree = Boards.of(3, 4, "000 100 200 000", 0);
    Check.yes("lost, blocked", tree.isLost());
    tree.setSide(1);
    Check.yes("lost for the other side, too", tree.isLost());
    Boards.lay(tree, 3, 4, "000 100 220 000", 0);
    Check.no("lost, as something can be taken", tree.isLost());
    Boards.lay(tree, 3, 4, "000 000 200 000", 0);
    Check.yes("lost without pawns", tree.isLost());
    Boards.lay(tree, 3, 4, "000 000 000 000", 1);
    Check.yes("lost on an empty board", tree.isLost());
    KindlingTree blocked = new KindlingTree();
    Boards.play(blocked, 0, 3, 7, 4, 2, 5);
    Check.yes("lost, as all are blocked and none takes", blocked.isLost());
    Check.index(blocked, "play(0) without steps", () -> blocked.play(0));
    blocked.back();
    Check.no("lost behind back()", blocked.isLost());
  }

  private static void key() {
    KindlingTree tree = new KindlingTree();
    Check.same("key()", tree.key(), 2 * 9503);
    tree.setSide(1);
    Check.same("key() of the side 1", tree.key(), 2 * 9503 + 1);
    Boards.lay(tree, 3, 3, "000 000 002", 0);
    Check.same("key()", tree.key(), 4);
    Boards.lay(tree, 3, 3, "000 000 000", 1);
    Check.same("key() of an empty board", tree.key(), 1);
    Boards.lay(tree, 5, 5, "22222 20000 00000 00000 00000", 1);
    long due = 728;
    for (int i = 0; i < 19; i++) {
      due *= 3;
    }
    Check.same("the greatest key()", tree.key(), 2 * due + 1);
    Check.yes("it is more than an int holds", tree.key() > Integer.MAX_VALUE);
    tree.setUp(4, 4, 1);
    Check.same("key()", tree.key(), 42515440L);
  }

  private static void evaluation() {
    KindlingTree tree = Boards.of(4, 4, "1000 0110 0002 0020", 0);
    // pawns 3 and 2, rows 2 and 1, steps 0-4 5-9 6-10 6x11 and 11-7 11x6 14-10
    Check.same("evaluation()", tree.evaluation(), 10 + 2 + 1);
    tree.setSide(1);
    Check.same("evaluation() for the side 1", tree.evaluation(), -13);
    tree.weigh(0, 0, 0);
    Check.same("evaluation() without weights", tree.evaluation(), 0);
    tree.weigh(50, 20, 10);
    Check.same("evaluation() with great weights", tree.evaluation(), -80);
    Boards.lay(tree, 5, 5, "00000 00000 00000 00000 11111", 0);
    Check.same("evaluation() with all rows gone", tree.evaluation(), 5 * 50 + 20 * 20);
  }

  private static void evaluationCountsStepsOfLostOnes() {
    KindlingTree tree = Boards.of(3, 4, "110 000 000 012", 1);
    Check.yes("lost", tree.isLost());
    tree.weigh(0, 0, 1);
    // 0-3 1-4 of the side 0, 11-8 of the side 1
    Check.same("evaluation() of a lost position", tree.evaluation(), 1 - 2);
    tree.weigh(10, 2, 1);
    Check.same("evaluation() of a lost position", tree.evaluation(), 10 - 30 - 6 - 1);
  }

  private static void ways() {
    KindlingTree tree = new KindlingTree();
    Check.same("ways(0)", tree.ways(0), 1);
    Check.same("ways(1)", tree.ways(1), 3);
    Check.same("ways(2)", tree.ways(2), 10);
    Check.same("ways(3)", tree.ways(3), Boards.plain(3, 3, "111000222", 0).ways(3));
    tree.setUp(4, 4, 1);
    Check.same("ways(3)", tree.ways(3), 66);
    Check.argument(tree, "ways(4)", () -> tree.ways(4));
    Check.argument(tree, "ways(-1)", () -> tree.ways(-1));
    Check.argument(tree, "ways(far)", () -> tree.ways(Integer.MAX_VALUE));
    Boards.lay(tree, 3, 4, "110 000 000 012", 1);
    Check.same("ways(0) of a lost position", tree.ways(0), 1);
    Check.same("ways(1) of a lost position", tree.ways(1), 0);
    Check.same("ways(3) of a lost position", tree.ways(3), 0);
    // one move, then the other side has lost
    Boards.lay(tree, 3, 4, "000 000 010 000", 0);
    Check.same("ways(1) ahead of a win", tree.ways(1), 1);
    Check.same("ways(2) ahead of a win", tree.ways(2), 0);
  }
}
