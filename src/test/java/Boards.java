/** Makes trees with a given position, and the plain ones beside them. */
final class Boards {
  private Boards() {}

  /** The fields by their numbers; spaces between rows are passed over. */
  static KindlingTree of(int columns, int rows, String text, int side) {
    KindlingTree tree = new KindlingTree();
    lay(tree, columns, rows, text, side);
    return tree;
  }

  static void lay(KindlingTree tree, int columns, int rows, String text, int side) {
    String fields = text.replace(" ", "");
    tree.setUp(columns, rows, 1);
    for (int field = 0; field < fields.length(); field++) {
      tree.put(field, 0);
    }
    for (int field = 0; field < fields.length(); field++) {
      tree.put(field, fields.charAt(field) - '0');
    }
    tree.setSide(side);
  }

  static PlainTree plain(int columns, int rows, String text, int side) {
    PlainTree plain = new PlainTree();
    plain.now = new PlainTree.Position(columns, rows, text.replace(" ", ""), side);
    return plain;
  }

  static String fields(KindlingTree tree) {
    StringBuilder text = new StringBuilder();
    for (int field = 0; field < tree.columns() * tree.rows(); field++) {
      text.append(tree.at(field));
    }
    return text.toString();
  }

  /** The moves as from-to, with an x where something is taken. */
  static String moves(KindlingTree tree) {
    StringBuilder text = new StringBuilder();
    for (int move = 0; move < tree.moves(); move++) {
      text.append(move == 0 ? "" : " ").append(tree.from(move));
      text.append(tree.takes(move) ? 'x' : '-').append(tree.to(move));
    }
    return text.toString();
  }

  /** The number of the move that goes so. */
  static int move(KindlingTree tree, int from, int to) {
    for (int move = 0; move < tree.moves(); move++) {
      if (tree.from(move) == from && tree.to(move) == to) {
        return move;
      }
    }
    throw new IllegalStateException("a test names a move that is none: " + from + "-" + to);
  }

  static void play(KindlingTree tree, int... fields) {
    for (int i = 0; i + 1 < fields.length; i += 2) {
      tree.play(move(tree, fields[i], fields[i + 1]));
    }
  }
}
