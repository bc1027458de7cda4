/** All that can be asked of a tree without changing it, as one text. */
final class Asked {
  private Asked() {}

  static String of(KindlingTree tree) {
    StringBuilder text = new StringBuilder();
    add(text, tree.columns(), tree.rows(), tree.side(), tree.played(), tree.key());
    add(text, tree.isLost() ? 1 : 0, tree.evaluation(), tree.moves());
    for (int field = 0; field < tree.columns() * tree.rows(); field++) {
      add(text, tree.at(field));
    }
    for (int move = 0; move < tree.moves(); move++) {
      add(text, tree.from(move), tree.to(move), tree.takes(move) ? 1 : 0, tree.valueOf(move, 1));
    }
    for (int depth = 0; depth <= 2; depth++) {
      add(text, tree.ways(depth), tree.value(depth));
    }
    add(text, tree.bestFrom(), tree.bestTo(), tree.reached());
    add(text, tree.nodes(), tree.hits(), tree.cuts());
    for (int depth = 0; depth <= 5; depth++) {
      add(text, tree.killer(depth, false), tree.killer(depth, true));
    }
    add(text, tree.slots(), tree.entries(), tree.known(), tree.told(), tree.pages());
    for (int slot = 0; slot < tree.slots(); slot++) {
      for (int what = 0; what < 4; what++) {
        add(text, tree.ofSlot(slot, what));
      }
    }
    text.append(tree.effort()).append(' ').append(tree.digest());
    return text.toString();
  }

  private static void add(StringBuilder text, long... numbers) {
    for (long number : numbers) {
      text.append(number).append(' ');
    }
  }
}
