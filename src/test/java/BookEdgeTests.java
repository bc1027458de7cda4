/** Promises 38 to 44, a test for each sentence that names an edge, something empty or a refusal. */
public final class BookEdgeTests {
  private static final int FAR = Integer.MAX_VALUE;
  private static final int FAR_BELOW = Integer.MIN_VALUE;

  public static void main(String[] args) {
    Sentences.runAll(BookEdgeTests.class);
  }

  /** Lost for the side 1, which has a step. */
  private static KindlingTree lost() {
    return Boards.of(3, 4, "110 000 000 012", 1);
  }

  /** With 30 entries: five for each of six positions, the last of which stands, and no other. */
  private static KindlingTree withAFullBook() {
    KindlingTree tree = Boards.of(5, 4, "11111 00000 00000 00000", 0);
    for (int i = 0; i < 6; i++) {
      tree.put(9 + i, 0);
      tree.put(10 + i, 2);
      for (int move = 0; move < 5; move++) {
        tree.teach(move, 10 + move);
      }
    }
    Check.same("pages()", tree.pages(), 30);
    return tree;
  }

  // ---- Promise 38: teach

  @Holds(in = "Promise 38", says = "Throws `IndexOutOfBoundsException` if there is no such MOVE")
  static void teachNoMove() {
    KindlingTree tree = new KindlingTree();
    Check.index(tree, "teach(-1, 1)", () -> tree.teach(-1, 1));
    Check.index(tree, "teach(3, 1)", () -> tree.teach(3, 1));
    Check.index(tree, "teach(far, 1)", () -> tree.teach(FAR, 1));
    Check.index(tree, "teach(far below, 1)", () -> tree.teach(FAR_BELOW, 1));
    Check.same("teach(2, 1)", tree.teach(2, 1), 1);
    Check.same("teach(0, 1)", tree.teach(0, 1), 2);
    KindlingTree lost = lost();
    Check.index(lost, "teach(0, 1) of a lost position", () -> lost.teach(0, 1));
  }

  @Holds(in = "Promise 38", says = "Throws `IllegalArgumentException` if weight is not 1 to 99")
  static void teachWeightTooSmall() {
    KindlingTree tree = new KindlingTree();
    Check.argument(tree, "teach(0, 0)", () -> tree.teach(0, 0));
    Check.argument(tree, "teach(0, -1)", () -> tree.teach(0, -1));
    Check.argument(tree, "teach(0, far below)", () -> tree.teach(0, FAR_BELOW));
    Check.same("teach(0, 1)", tree.teach(0, 1), 1);
    Check.same("told()", tree.told(), 0);
  }

  @Holds(in = "Promise 38", says = "Throws `IllegalArgumentException` if weight is not 1 to 99")
  static void teachWeightTooGreat() {
    KindlingTree tree = new KindlingTree();
    tree.teach(1, 98);
    Check.argument(tree, "teach(0, 100)", () -> tree.teach(0, 100));
    Check.argument(tree, "teach(0, far)", () -> tree.teach(0, FAR));
    Check.argument(tree, "teach(1, 100) in place of 98", () -> tree.teach(1, 100));
    Check.same("teach(0, 99)", tree.teach(0, 99), 2);
    Check.same("told()", tree.told(), 0);
  }

  @Holds(in = "Promise 38", says = "if there are 30 entries, and it is none")
  static void teachA31st() {
    KindlingTree tree = withAFullBook();
    tree.setSide(1);
    Check.state(tree, "teach() of another position", () -> tree.teach(0, 99));
    Check.same("told()", tree.told(), -1);
    tree.setSide(0);
    tree.play(4);
    Check.state(tree, "teach() behind a move", () -> tree.teach(0, 1));
    tree.back();
    Check.same("told()", tree.told(), 4);
  }

  @Holds(in = "Promise 38", says = "if there are 30 entries, and it is none")
  static void teachOneOf30Again() {
    KindlingTree tree = withAFullBook();
    Check.same("teach() of the last one", tree.teach(4, 1), 30);
    Check.same("told()", tree.told(), 3);
    Check.same("teach() of another one", tree.teach(0, 99), 30);
    Check.same("told()", tree.told(), 0);
  }

  @Holds(in = "Promise 38", says = "if there are 30 entries, and it is none")
  static void teachThe30th() {
    KindlingTree tree = Boards.of(5, 4, "11111 00000 00000 00000", 0);
    for (int count = 1; count <= 30; count++) {
      if (count % 5 == 1) {
        tree.put(10 + count / 5, 2);
      }
      Check.same("teach()", tree.teach((count - 1) % 5, count), count);
    }
    Check.same("told()", tree.told(), 4);
  }

  @Holds(in = "Promise 38", says = "in place of the weight that it has there")
  static void teachReplacesAWeight() {
    KindlingTree tree = new KindlingTree();
    tree.teach(0, 5);
    tree.teach(1, 9);
    Check.same("teach(1, 1)", tree.teach(1, 1), 2);
    Check.same("told() behind a smaller weight", tree.told(), 0);
    Check.same("teach(1, 6)", tree.teach(1, 6), 2);
    Check.same("told() behind a greater weight", tree.told(), 1);
  }

  @Holds(in = "Promise 38", says = "Returns how many entries the BOOK has then")
  static void teachTellsHowMany() {
    KindlingTree tree = new KindlingTree();
    Check.same("teach() of the first", tree.teach(2, 7), 1);
    Check.same("teach() of the same", tree.teach(2, 8), 1);
    tree.play(0);
    Check.same("teach() of another position", tree.teach(0, 8), 2);
  }

  // ---- Promise 39: told

  @Holds(in = "Promise 39", says = "-1 without one")
  static void toldByAnEmptyBook() {
    Check.same("told() of a new one", new KindlingTree().told(), -1);
    Check.same("told() of a lost position", lost().told(), -1);
  }

  @Holds(in = "Promise 39", says = "-1 without one")
  static void toldOfAnotherPosition() {
    KindlingTree tree = new KindlingTree();
    tree.teach(0, 99);
    tree.setSide(1);
    Check.same("told() of the other side", tree.told(), -1);
    tree.setSide(0);
    tree.put(8, 0);
    Check.same("told() with another pawn", tree.told(), -1);
    tree.put(8, 2);
    Check.same("told()", tree.told(), 0);
  }

  @Holds(in = "Promise 39", says = "Returns the number of the MOVE")
  static void toldTheFirstAndTheLastMove() {
    KindlingTree tree = new KindlingTree();
    tree.teach(0, 1);
    Check.same("told()", tree.told(), 0);
    tree.teach(2, 2);
    Check.same("told()", tree.told(), 2);
  }

  // ---- Promise 40: go

  @Holds(in = "Promise 40", says = "Throws `IllegalArgumentException` if depth is not 1 to 4")
  static void goTooDeep() {
    KindlingTree tree = new KindlingTree();
    Check.argument(tree, "go(5)", () -> tree.go(5));
    Check.argument(tree, "go(far)", () -> tree.go(FAR));
    tree.teach(0, 1);
    Check.argument(tree, "go(5) where the book tells one", () -> tree.go(5));
    tree.play(1);
    tree.go(4);
    Check.same("reached()", tree.reached(), 4);
  }

  @Holds(in = "Promise 40", says = "Throws `IllegalArgumentException` if depth is not 1 to 4")
  static void goNotDeepEnough() {
    KindlingTree tree = new KindlingTree();
    Check.argument(tree, "go(0)", () -> tree.go(0));
    Check.argument(tree, "go(-1)", () -> tree.go(-1));
    Check.argument(tree, "go(far below)", () -> tree.go(FAR_BELOW));
    tree.teach(0, 1);
    Check.argument(tree, "go(0) where the book tells one", () -> tree.go(0));
    tree.play(1);
    tree.go(1);
    Check.same("reached()", tree.reached(), 1);
  }

  @Holds(in = "Promise 40", says = "Throws `IllegalStateException` if the POSITION is LOST")
  static void goInALostPosition() {
    KindlingTree lost = lost();
    Check.state(lost, "go(1) with a pawn in its last row", () -> lost.go(1));
    Check.state(lost, "go(4) with a pawn in its last row", () -> lost.go(4));
    KindlingTree blocked = Boards.of(3, 4, "000 100 200 000", 0);
    Check.state(blocked, "go(1) without steps", () -> blocked.go(1));
  }

  @Holds(in = "Promise 40", says = "the latest search stays the latest one then")
  static void goByTheBookSearchesNothing() {
    KindlingTree tree = new KindlingTree();
    tree.teach(2, 1);
    Check.same("go(4)", tree.go(4), 2);
    Check.same("reached() ahead of the first search", tree.reached(), 0);
    Check.same("entries()", tree.entries(), 0);
    tree.back();
    tree.search(2);
    Check.same("go(4)", tree.go(4), 2);
    Check.same("bestFrom()", tree.bestFrom(), 1);
    Check.same("bestTo()", tree.bestTo(), 4);
    Check.same("reached()", tree.reached(), 2);
  }

  @Holds(in = "Promise 40", says = "otherwise the BEST one of a search")
  static void goWithABookOfOtherPositions() {
    KindlingTree tree = new KindlingTree();
    tree.play(0);
    tree.teach(0, 99);
    tree.back();
    Check.same("go(2)", tree.go(2), 1);
    Check.same("bestTo()", tree.bestTo(), 4);
    Check.same("reached()", tree.reached(), 2);
    Check.same("played()", tree.played(), 1);
  }

  /** The search is a hit at once: its best move is that of the entry. */
  @Holds(in = "Promise 40", says = "otherwise the BEST one of a search")
  static void goByAHit() {
    KindlingTree tree = new KindlingTree();
    tree.search(1);
    Check.same("go(1)", tree.go(1), 0);
    Check.same("hits()", tree.hits(), 1);
  }

  // ---- Promise 41: playOut

  @Holds(in = "Promise 41", says = "depth is not 1 to 3")
  static void playOutTooDeep() {
    KindlingTree tree = new KindlingTree();
    Check.argument(tree, "playOut(4, 1)", () -> tree.playOut(4, 1));
    Check.argument(tree, "playOut(far, 1)", () -> tree.playOut(FAR, 1));
    Check.same("playOut(3, 1)", tree.playOut(3, 1), 1);
    Check.same("reached()", tree.reached(), 3);
    KindlingTree lost = lost();
    Check.argument(lost, "playOut(4, 1) of a lost position", () -> lost.playOut(4, 1));
  }

  @Holds(in = "Promise 41", says = "depth is not 1 to 3")
  static void playOutNotDeepEnough() {
    KindlingTree tree = new KindlingTree();
    Check.argument(tree, "playOut(0, 1)", () -> tree.playOut(0, 1));
    Check.argument(tree, "playOut(-1, 1)", () -> tree.playOut(-1, 1));
    Check.argument(tree, "playOut(far below, 1)", () -> tree.playOut(FAR_BELOW, 1));
    Check.same("playOut(1, 1)", tree.playOut(1, 1), 1);
    Check.same("reached()", tree.reached(), 1);
  }

  @Holds(in = "Promise 41", says = "most is not 1 to 10")
  static void playOutTooMany() {
    KindlingTree tree = new KindlingTree();
    tree.setUp(5, 5, 1);
    Check.argument(tree, "playOut(1, 11)", () -> tree.playOut(1, 11));
    Check.argument(tree, "playOut(1, far)", () -> tree.playOut(1, FAR));
    Check.same("playOut(1, 10)", tree.playOut(1, 10), 10);
    Check.same("played()", tree.played(), 10);
    KindlingTree lost = lost();
    Check.argument(lost, "playOut(1, 11) of a lost position", () -> lost.playOut(1, 11));
  }

  @Holds(in = "Promise 41", says = "most is not 1 to 10")
  static void playOutTooFew() {
    KindlingTree tree = new KindlingTree();
    Check.argument(tree, "playOut(1, 0)", () -> tree.playOut(1, 0));
    Check.argument(tree, "playOut(1, -1)", () -> tree.playOut(1, -1));
    Check.argument(tree, "playOut(1, far below)", () -> tree.playOut(1, FAR_BELOW));
    Check.same("playOut(1, 1)", tree.playOut(1, 1), 1);
    Check.same("played()", tree.played(), 1);
  }

  @Holds(in = "Promise 41", says = "Plays by go() till the POSITION is LOST")
  static void playOutStopsAtTheEnd() {
    KindlingTree tree = Boards.of(3, 4, "000 100 000 002", 0);
    // 3-6 11-8 6-9, and the side 1 has lost
    Check.same("playOut(3, 10)", tree.playOut(3, 10), 3);
    Check.yes("lost", tree.isLost());
    Check.same("played()", tree.played(), 3);
  }

  @Holds(in = "Promise 41", says = "Plays by go() till the POSITION is LOST")
  static void playOutOfALostPosition() {
    KindlingTree tree = lost();
    long before = tree.digest();
    Check.same("playOut(3, 10)", tree.playOut(3, 10), 0);
    Check.same("digest() behind it", tree.digest(), before);
  }

  @Holds(in = "Promise 41", says = "or so many MOVES were played")
  static void playOutEndsAtTheEndAndAtMostAtOnce() {
    KindlingTree tree = Boards.of(3, 4, "000 100 000 002", 0);
    Check.same("playOut(3, 2)", tree.playOut(3, 2), 2);
    Check.no("lost", tree.isLost());
    tree.back();
    tree.back();
    Check.same("playOut(3, 3)", tree.playOut(3, 3), 3);
    Check.yes("lost", tree.isLost());
  }

  @Holds(in = "Promise 41", says = "Plays by go()")
  static void playOutGoesByTheBook() {
    KindlingTree tree = new KindlingTree();
    tree.teach(2, 1);
    Check.same("playOut(3, 1)", tree.playOut(3, 1), 1);
    Check.same("fields", Boards.fields(tree), "110001222");
    Check.same("reached()", tree.reached(), 0);
  }

  // ---- Promises 42 and 43: pages, effort

  @Holds(in = "Promise 42", says = "Returns how many entries the BOOK has")
  static void pagesOfAnEmptyAndAFullBook() {
    Check.same("pages() of a new one", new KindlingTree().pages(), 0);
    KindlingTree tree = withAFullBook();
    Check.same("pages() of a full one", tree.pages(), 30);
    tree.setUp(3, 3, 1);
    Check.same("pages() behind setUp()", tree.pages(), 30);
  }

  @Holds(in = "Promise 43", says = "0 without CUTS")
  static void effortWithoutCuts() {
    KindlingTree tree = new KindlingTree();
    Check.same("effort() ahead of a search", tree.effort(), 0.0);
    tree.search(1);
    Check.same("nodes()", tree.nodes(), 6);
    Check.same("effort() without cuts", tree.effort(), 0.0);
  }

  @Holds(in = "Promise 43", says = "Returns nodes() divided once by cuts(), not cut")
  static void effortIsNotCut() {
    KindlingTree tree = new KindlingTree();
    tree.setUp(4, 4, 1);
    tree.search(3);
    Check.same("effort()", tree.effort(), 64.0 / 9.0);
    Check.yes("it is no whole number", tree.effort() > 7.11 && tree.effort() < 7.12);
  }

  // ---- Promise 44: digest

  private static long joined(long... numbers) {
    long d = 58036;
    for (long number : numbers) {
      d = d * 31 + number;
    }
    return d;
  }

  /** An empty board, no slots, nothing found: each number of the document stands here. */
  @Holds(in = "Promise 44", says = "A number d starts with 58036")
  static void digestOfAnEmptyBoardWithoutSlots() {
    KindlingTree tree = Boards.of(3, 3, "000 000 000", 0);
    tree.setSlots(0);
    Check.same("digest()", tree.digest(), joined(
        3, 3, 0, 0, 0, 0, 0, 0, 0, 0, 0, 0, 0, 1, 0, 0,
        0, 0, -1001,
        -1, -1, 0, 0, 0, 0,
        -1, -1, -1, -1, -1, -1, -1, -1,
        0, 0, 0, -1, 0));
  }

  /** With many numbers the 64 bits are passed again and again: the last 64 of the sum stay. */
  @Holds(in = "Promise 44", says = "which wraps around as a 64-bit integer")
  static void digestWrapsAround() {
    KindlingTree tree = new KindlingTree();
    tree.setSlots(1);
    long[] numbers = {
      3, 3, 1, 1, 1, 0, 0, 0, 2, 2, 2, 0, 0, 0, 19006, 0,
      3, 0, 3, 1, 4, 2, 5, 10, 2,
      -1, -1, 0, 0, 0, 0,
      -1, -1, -1, -1, -1, -1, -1, -1,
      1, 0, -1, -1, -1, -1, 0, -1, 0
    };
    java.math.BigInteger d = java.math.BigInteger.valueOf(58036);
    for (long number : numbers) {
      d = d.multiply(java.math.BigInteger.valueOf(31)).add(java.math.BigInteger.valueOf(number));
    }
    Check.yes("more than 64 bits are needed", d.bitLength() > 64);
    Check.same("digest()", tree.digest(), d.longValue());
  }

  @Holds(in = "Promise 44", says = "whether something is so counts 1 or 0")
  static void digestCountsWhetherItIsLost() {
    KindlingTree tree = Boards.of(3, 3, "000 000 000", 1);
    tree.setSlots(0);
    Check.same("digest()", tree.digest(), joined(
        3, 3, 0, 0, 0, 0, 0, 0, 0, 0, 0, 1, 0, 1, 1, 0,
        0, 0, -1001,
        -1, -1, 0, 0, 0, 0,
        -1, -1, -1, -1, -1, -1, -1, -1,
        0, 0, 0, -1, 0));
  }

  @Holds(in = "Promise 44", says = "and for each SLOT ofSlot() of 0 to 3")
  static void digestOfAFullTableOfOneSlot() {
    KindlingTree tree = new KindlingTree();
    tree.setSlots(1);
    tree.search(1);
    Check.same("digest()", tree.digest(), joined(
        3, 3, 1, 1, 1, 0, 0, 0, 2, 2, 2, 0, 0, 0, 19006, 0,
        3, 0, 3, 1, 4, 2, 5, 10, 2,
        0, 3, 1, 6, 0, 0,
        -1, -1, -1, -1, -1, -1, -1, -1,
        1, 1, 1, 2, 0, 3, 1, -1, 0));
  }

  /** Without slots, so that what the search has left are its killers: 206, 1208 and 1208. */
  @Holds(in = "Promise 44", says = "for each the newer one, then the older one")
  static void digestOfKillersOnTwoDepths() {
    KindlingTree tree = new KindlingTree();
    tree.setUp(4, 4, 1);
    tree.search(3);
    tree.setUp(3, 3, 1);
    Boards.change(tree, "000 000 000");
    tree.setSlots(0);
    Check.same("digest()", tree.digest(), joined(
        3, 3, 0, 0, 0, 0, 0, 0, 0, 0, 0, 0, 0, 1, 0, 0,
        0, 0, -1001,
        0, 4, 3, 64, 0, 9,
        206, 1208, 1208, -1, -1, -1, -1, -1,
        0, 0, 0, -1, 0));
  }

  @Holds(in = "Promise 44", says = "at() of each FIELD")
  static void digestOfTheLargestBoard() {
    KindlingTree tree = Boards.of(5, 5, "00000 00000 00000 00000 00000", 0);
    tree.setSlots(0);
    tree.put(24, 1);
    // the pawn has won its rows and has no step: 10 and 4 * 2, and the key is 2
    long[] numbers = new long[2 + 25 + 5 + 3 + 6 + 8 + 5];
    long[] behindFields = {0, 0, 1, 2, 18, 0, 0, -1001, -1, -1, 0, 0, 0, 0};
    long[] atTheEnd = {0, 0, 0, -1, 0};
    numbers[0] = 5;
    numbers[1] = 5;
    numbers[26] = 1;
    System.arraycopy(behindFields, 0, numbers, 27, behindFields.length);
    for (int i = 41; i < 49; i++) {
      numbers[i] = -1;
    }
    System.arraycopy(atTheEnd, 0, numbers, 49, atTheEnd.length);
    Check.same("digest()", tree.digest(), joined(numbers));
  }
}
