/** Makes trees with a given position, and the plain ones beside them. */
final class Boards {
  private Boards() {}

  /** The fields by their numbers; spaces between rows are passed over. */
  static KindlingTree of(int columns, int rows, String text, int side) {
    KindlingTree tree = new KindlingTree();
    lay(tree, columns, rows, text, side);
    return tree;
  }

  static void lay(KindlingTree tree, int columns, int rows, String text, int side) {
    tree.setUp(columns, rows, 1);
    change(tree, text);
    tree.setSide(side);
  }

  /** Changes the fields alone, by put(), so that the table stays. */
  static void change(KindlingTree tree, String text) {
    String fields = text.replace(" ", "");
    for (int field = 0; field < fields.length(); field++) {
      tree.put(field, 0);
    }
    for (int field = 0; field < fields.length(); field++) {
      tree.put(field, fields.charAt(field) - '0');
    }
  }

  /** With 64 slots, all of which have an entry, behind some hundred calls. */
  static KindlingTree withAFullTable() {
    KindlingTree tree = new KindlingTree();
    tree.setUp(5, 4, 1);
    tree.setSlots(64);
    for (int i = 0; i < 60 && tree.entries() < 64; i++) {
      tree.search(4);
      tree.play(i % tree.moves());
      while (tree.isLost() || tree.played() > 7) {
        tree.back();
      }
    }
    Check.same("entries() of a full table", tree.entries(), 64);
    return tree;
  }

  static PlainTree plain(int columns, int rows, String text, int side) {
    PlainTree plain = new PlainTree();
    plain.now = new PlainTree.Position(columns, rows, text.replace(" ", ""), side);
    return plain;
  }

  static String fields(KindlingTree tree) {
    StringBuilder text = new StringBuilder();
    for (int field = 0; field < tree.columns() * tree.rows(); field++) {
      text.append(tree.at(field));
    }
    return text.toString();
  }

  /** The moves as from-to, with an x where something is taken. */
  static String moves(KindlingTree tree) {
    StringBuilder text = new StringBuilder();
    for (int move = 0; move < tree.moves(); move++) {
      text.append(move == 0 ? "" : " ").append(tree.from(move));
      text.append(tree.takes(move) ? 'x' : '-').append(tree.to(move));
    }
    return text.toString();
  }

  /** The number of the move that goes so. */
  static int move(KindlingTree tree, int from, int to) {
    for (int move = 0; move < tree.moves(); move++) {
      if (tree.from(move) == from && tree.to(move) == to) {
        return move;
      }
    }
    throw new IllegalStateException("a test names a move that is none: " + from + "-" + to);
  }

  static void play(KindlingTree tree, int... fields) {
    for (int i = 0; i + 1 < fields.length; i += 2) {
      tree.play(move(tree, fields[i], fields[i + 1]));
    }
  }
}
