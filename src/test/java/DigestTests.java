/** Promise 44: digest. */
public final class DigestTests {
  public static void main(String[] args) {
    joinsWhatIsAsked();
    sharedNumbers();
    changesNothing();
    Check.end("DigestTests");
  }

  private static long digest;

  private static void join(long... numbers) {
    for (long number : numbers) {
      digest = digest * 31 + number;
    }
  }

  /** The order of the document, by the methods of the face. */
  private static long joined(KindlingTree tree) {
    digest = 58036;
    join(tree.columns(), tree.rows());
    for (int field = 0; field < tree.columns() * tree.rows(); field++) {
      join(tree.at(field));
    }
    join(tree.side(), tree.played(), tree.isLost() ? 1 : 0, tree.key(), tree.evaluation());
    join(tree.moves());
    for (int move = 0; move < tree.moves(); move++) {
      join(tree.from(move), tree.to(move));
    }
    join(tree.ways(2), tree.value(1));
    join(tree.bestFrom(), tree.bestTo(), tree.reached());
    join(tree.nodes(), tree.hits(), tree.cuts());
    for (int depth = 1; depth <= 4; depth++) {
      join(tree.killer(depth, false), tree.killer(depth, true));
    }
    join(tree.slots(), tree.entries());
    for (int slot = 0; slot < tree.slots(); slot++) {
      for (int what = 0; what <= 3; what++) {
        join(tree.ofSlot(slot, what));
      }
    }
    join(tree.known(), tree.told(), tree.pages());
    return digest;
  }

  private static void joinsWhatIsAsked() {
    KindlingTree tree = new KindlingTree();
    Check.same("digest() of a new one", tree.digest(), joined(tree));
    tree = new KindlingTree();
    tree.setUp(4, 4, 1);
    tree.teach(1, 4);
    tree.search(4);
    Check.same("digest()", tree.digest(), joined(tree));
    tree = new KindlingTree();
    tree.setSlots(64);
    tree.playOut(3, 5);
    tree.teach(0, 2);
    Check.same("digest()", tree.digest(), joined(tree));
    tree = new KindlingTree();
    tree.setSlots(0);
    tree.search(3);
    Check.same("digest() without slots", tree.digest(), joined(tree));
    Boards.lay(tree, 3, 4, "110 000 000 012", 1);
    Check.same("digest() of a lost position", tree.digest(), joined(tree));
  }

  private static void sharedNumbers() {
    KindlingTree tree = new KindlingTree();
    Check.same("digest() of a new one", tree.digest(), 6323020537623377168L);
  }

  private static void changesNothing() {
    KindlingTree tree = new KindlingTree();
    tree.play(1);
    tree.search(3);
    long first = tree.digest();
    Check.same("digest() again", tree.digest(), first);
    Check.same("back() behind digest()", tree.back(), 0);
  }
}
