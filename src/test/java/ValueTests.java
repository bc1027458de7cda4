import java.util.Random;

/** Promises 24 and 25: value, valueOf. */
public final class ValueTests {
  public static void main(String[] args) {
    valueOfLostPositions();
    valueOfWins();
    quietLooksFourDeep();
    quietIsNotAskedToTake();
    valueRefuses();
    valueOfMoves();
    valueOfRefuses();
    valuesChangeNothing();
    valuesAgree();
    Check.end("ValueTests");
  }

  private static void valueOfLostPositions() {
    KindlingTree tree = Boards.of(3, 4, "110 000 000 012", 1);
    for (int depth = 0; depth <= 3; depth++) {
      Check.same("value(" + depth + ") of a lost position", tree.value(depth), -1000 - depth);
    }
    Boards.lay(tree, 3, 4, "000 100 200 000", 0);
    Check.same("value(2) of a blocked one", tree.value(2), -1002);
    tree.setQuiet(false);
    Check.same("value(0) without quiet search", tree.value(0), -1000);
  }

  private static void valueOfWins() {
    // the pawn on 7 goes to the last row at once
    KindlingTree tree = Boards.of(3, 4, "100 000 010 200", 0);
    Check.same("value(0)", tree.value(0), 1000);
    Check.same("value(1)", tree.value(1), 1000);
    Check.same("value(2)", tree.value(2), 1001);
    Check.same("value(3)", tree.value(3), 1002);
    tree.setQuiet(false);
    Check.same("value(0) without quiet search", tree.value(0), 10 + 4 + 3 - 2);
    Check.same("value(1) without quiet search", tree.value(1), 1000);
  }

  private static void quietLooksFourDeep() {
    // a row of takings on one field: 6x10 11x6 1x6 ... as long as there are pawns beside it
    KindlingTree tree = Boards.of(5, 5, "01010 10101 00200 22022 00200", 0);
    PlainTree plain = Boards.plain(5, 5, "0101010101002002202200200", 0);
    Check.same("value(0) of many takings", tree.value(0), plain.value(0));
    Check.same("value(1) of many takings", tree.value(1), plain.value(1));
    Check.same("value(2) of many takings", tree.value(2), plain.value(2));
    tree.setSide(1);
    plain.setSide(1);
    Check.same("value(0) of many takings", tree.value(0), plain.value(0));
    Check.same("value(3) of many takings", tree.value(3), plain.value(3));
  }

  private static void quietIsNotAskedToTake() {
    // 4x8 is paid for with the pawn: the position as it stands is worth more
    KindlingTree tree = Boards.of(3, 5, "100 010 002 020 000", 0);
    tree.weigh(10, 0, 0);
    Check.same("value(0) where taking is even", tree.value(0), 0);
    // on 3 rows more it is taken for nothing
    Boards.lay(tree, 3, 5, "100 010 002 000 200", 0);
    Check.same("value(0) where taking is a gain", tree.value(0), 10);
    tree.setQuiet(false);
    Check.same("value(0) without quiet search", tree.value(0), 0);
  }

  private static void valueRefuses() {
    KindlingTree tree = new KindlingTree();
    tree.search(2);
    Check.argument(tree, "value(4)", () -> tree.value(4));
    Check.argument(tree, "value(-1)", () -> tree.value(-1));
    Check.argument(tree, "value(far)", () -> tree.value(Integer.MAX_VALUE));
    Check.argument(tree, "value(far below)", () -> tree.value(Integer.MIN_VALUE));
  }

  private static void valueOfMoves() {
    KindlingTree tree = Boards.of(3, 4, "100 000 010 200", 0);
    Check.same("moves", Boards.moves(tree), "0-3 7x9 7-10");
    Check.same("valueOf(2, 1)", tree.valueOf(2, 1), 1000);
    Check.same("valueOf(2, 2)", tree.valueOf(2, 2), 1001);
    Check.same("valueOf(2, 3)", tree.valueOf(2, 3), 1002);
    PlainTree plain = Boards.plain(3, 4, "100000010200", 0);
    for (int depth = 1; depth <= 3; depth++) {
      Check.same("valueOf(0, " + depth + ")", tree.valueOf(0, depth), plain.valueOf(0, depth));
      Check.same("valueOf(1, " + depth + ")", tree.valueOf(1, depth), plain.valueOf(1, depth));
    }
  }

  private static void valueOfRefuses() {
    KindlingTree tree = new KindlingTree();
    Check.index(tree, "valueOf(3, 1)", () -> tree.valueOf(3, 1));
    Check.index(tree, "valueOf(-1, 1)", () -> tree.valueOf(-1, 1));
    Check.index(tree, "valueOf(far, 1)", () -> tree.valueOf(Integer.MAX_VALUE, 1));
    Check.index(tree, "valueOf(3, 0): the move first", () -> tree.valueOf(3, 0));
    Check.argument(tree, "valueOf(0, 0)", () -> tree.valueOf(0, 0));
    Check.argument(tree, "valueOf(0, 4)", () -> tree.valueOf(0, 4));
    Check.argument(tree, "valueOf(0, far)", () -> tree.valueOf(0, Integer.MIN_VALUE));
    KindlingTree lost = Boards.of(3, 3, "000 000 012", 1);
    Check.index(lost, "valueOf(0, 1) of a lost position", () -> lost.valueOf(0, 1));
  }

  private static void valuesChangeNothing() {
    KindlingTree tree = new KindlingTree();
    tree.setUp(4, 4, 1);
    tree.play(1);
    tree.search(3);
    String before = Asked.of(tree);
    for (int depth = 1; depth <= 3; depth++) {
      tree.value(depth);
      tree.ways(depth);
      tree.valueOf(1, depth);
    }
    Check.same("what stands behind values", Asked.of(tree), before);
    Check.same("back() behind values", tree.back(), 0);
  }

  private static void valuesAgree() {
    Random random = new Random(24);
    for (int i = 0; i < 300; i++) {
      int columns = 3 + random.nextInt(3);
      int rows = 3 + random.nextInt(3);
      String fields = Randoms.fields(random, columns, rows);
      int side = random.nextInt(2);
      KindlingTree tree = Boards.of(columns, rows, fields, side);
      PlainTree plain = Boards.plain(columns, rows, fields, side);
      for (int depth = 0; depth <= 3; depth++) {
        Check.same("value(" + depth + ") of " + fields, tree.value(depth), plain.value(depth));
      }
      int greatest = -9999;
      for (int move = 0; move < tree.moves(); move++) {
        Check.same("valueOf of " + fields, tree.valueOf(move, 2), plain.valueOf(move, 2));
        greatest = Math.max(greatest, tree.valueOf(move, 3));
      }
      if (!tree.isLost()) {
        Check.same("the greatest valueOf of " + fields, greatest, tree.value(3));
      }
    }
  }
}
