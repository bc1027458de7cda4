/**
 * What can be asked of a tree without changing it, as one text. The digest joins most of it, so
 * that an object stays far under its 512 calls.
 */
final class Asked {
  private Asked() {}

  static String of(KindlingTree tree) {
    StringBuilder text = new StringBuilder();
    for (int move = 0; move < tree.moves(); move++) {
      text.append(tree.takes(move) ? 'x' : '-');
    }
    for (int depth = 0; depth <= 3; depth++) {
      text.append(tree.ways(depth)).append(' ').append(tree.value(depth)).append(' ');
    }
    return text.append(tree.effort()).append(' ').append(tree.digest()).toString();
  }
}
