/**
 * The sentences of the term 4 (THE SEARCH) that name an edge, something empty or full, each with a
 * test of its own, on positions that are as small as they could be found.
 */
public final class SearchTermsEdgeTests {
  public static void main(String[] args) {
    Sentences.runAll(SearchTermsEdgeTests.class);
  }

  /** Pawns alone count: many numbers are equal then. */
  private static KindlingTree byPawns(int columns, int rows, String fields, int side) {
    KindlingTree tree = Boards.of(columns, rows, fields, side);
    tree.weigh(10, 0, 0);
    return tree;
  }

  /** Rows alone count. */
  private static KindlingTree byRows(int columns, int rows, String fields, int side) {
    KindlingTree tree = Boards.of(columns, rows, fields, side);
    tree.weigh(0, 1, 0);
    return tree;
  }

  private static void counts(KindlingTree tree, int nodes, int hits, int cuts) {
    Check.same("nodes()", tree.nodes(), nodes);
    Check.same("hits()", tree.hits(), hits);
    Check.same("cuts()", tree.cuts(), cuts);
  }

  private static void best(KindlingTree tree, int from, int to) {
    Check.same("bestFrom()", tree.bestFrom(), from);
    Check.same("bestTo()", tree.bestTo(), to);
  }

  private static void killers(KindlingTree tree, int depth, int newer, int older) {
    Check.same("killer(" + depth + ", false)", tree.killer(depth, false), newer);
    Check.same("killer(" + depth + ", true)", tree.killer(depth, true), older);
  }

  private static void entry(KindlingTree tree, int slot, int... due) {
    for (int what = 0; what < due.length; what++) {
      Check.same("ofSlot(" + slot + ", " + what + ")", tree.ofSlot(slot, what), due[what]);
    }
  }

  // ---- SEARCH: what is a node, lost, or of the depth 0

  /** 13-17 wins at once; the position behind it is a node with each of both depths. */
  @Holds(in = "Terms 4", says = "It is a NODE. If the POSITION is LOST, it is - 1000 - d.")
  static void lostPositionsAreNodes() {
    KindlingTree tree = Boards.of(4, 5, "0000 0000 0000 0102 0000", 0);
    tree.search(2);
    counts(tree, 4, 0, 0);
  }

  @Holds(in = "Terms 4", says = "If the POSITION is LOST, it is - 1000 - d.")
  static void lostPositionsTellTheirDepth() {
    for (int depth = 1; depth <= 4; depth++) {
      KindlingTree tree = Boards.of(4, 5, "0000 0000 0000 0102 0000", 0);
      Check.same("search(" + depth + ")", tree.search(depth), 1000 + depth - 1);
      best(tree, 13, 17);
    }
  }

  @Holds(in = "Terms 4", says = "If d is 0, it is what QUIET with 4 and the same bounds tells")
  static void depth0IsOneNode() {
    KindlingTree lost = Boards.of(3, 5, "000 200 001 000 000", 1);
    Check.same("search(1)", lost.search(1), 1000);
    counts(lost, 2, 0, 0);
    KindlingTree calm = byPawns(4, 4, "0001 0000 0000 0020", 0);
    Check.same("search(1)", calm.search(1), 0);
    counts(calm, 2, 0, 0);
  }

  // ---- SEARCH: hits

  @Holds(in = "Terms 4", says = "if that is EXACT")
  static void exactEntryIsAHit() {
    KindlingTree tree = byPawns(4, 4, "0001 0000 0000 0020", 0);
    tree.search(1);
    counts(tree, 2, 0, 0);
    entry(tree, 14, 1, 0, 0, 307);
    Check.same("search(1) again", tree.search(1), 0);
    counts(tree, 1, 1, 0);
  }

  /** The entry is AT LEAST 1000, and high is 1000 in the second search. */
  @Holds(in = "Terms 4", says = "or AT LEAST and its number is high or more")
  static void atLeastOfJustHighIsAHit() {
    KindlingTree tree = byPawns(3, 3, "000 110 002", 1);
    tree.search(2);
    entry(tree, 20, 1, 1000, 1, 306);
    Check.same("search(2) again", tree.search(2), -1000);
    counts(tree, 6, 2, 0);
  }

  /** The entry is AT LEAST 0, and high is -1001 in the second search. */
  @Holds(in = "Terms 4", says = "or AT LEAST and its number is high or more")
  static void atLeastOfMoreThanHighIsAHit() {
    KindlingTree tree = byPawns(3, 4, "000 001 020 000", 1);
    Check.same("search(2)", tree.search(2), 1001);
    entry(tree, 30, 1, 0, 1, 508);
    Check.same("search(2) again", tree.search(2), 1001);
    counts(tree, 6, 1, 0);
  }

  /** The entry is AT LEAST 0, and high is 9999 in a search of its position. */
  @Holds(in = "Terms 4", says = "or AT LEAST and its number is high or more")
  static void atLeastOfLessThanHighIsNoHit() {
    KindlingTree tree = byPawns(3, 4, "000 001 020 000", 1);
    tree.search(2);
    tree.play(0);
    Check.same("known()", tree.known(), 1);
    Check.same("search(1)", tree.search(1), 0);
    counts(tree, 2, 0, 0);
    entry(tree, 30, 1, 0, 0, 508);
  }

  /** The entry is AT MOST 1000, and low is 1000 in the second search. */
  @Holds(in = "Terms 4", says = "or AT MOST and its number is low or less")
  static void atMostOfJustLowIsAHit() {
    KindlingTree tree = byPawns(3, 5, "000 000 210 002 000", 0);
    tree.search(3);
    entry(tree, 26, 1, 1000, 2, 1013);
    Check.same("search(3) again", tree.search(3), 1000);
    counts(tree, 13, 2, 2);
  }

  /** The entry is AT MOST 1000, and low is 1002 where its position comes again. */
  @Holds(in = "Terms 4", says = "or AT MOST and its number is low or less")
  static void atMostOfLessThanLowIsAHit() {
    KindlingTree tree = byRows(4, 4, "0010 0222 1020 0000", 0);
    tree.setQuiet(false);
    Check.same("search(3)", tree.search(3), 1002);
    entry(tree, 10, 1, 1000, 2, 812);
    counts(tree, 17, 1, 4);
  }

  /** An entry that is AT MOST tells nothing, if low is -9999. */
  @Holds(in = "Terms 4", says = "or AT MOST and its number is low or less")
  static void atMostOfMoreThanLowIsNoHit() {
    KindlingTree tree = Boards.of(3, 5, "000 000 001 020 000", 1);
    Check.same("search(3)", tree.search(3), 1002);
    tree.play(0);
    Check.same("search(2)", tree.search(2), 0);
    counts(tree, 5, 0, 0);
    entry(tree, 3, 1, 0, 0, 704);
  }

  @Holds(in = "Terms 4", says = "if the TABLE has an entry for the POSITION with the depth d")
  static void entryOfAnotherDepthIsNoHit() {
    KindlingTree tree = Boards.of(3, 3, "000 021 000", 1);
    Check.same("search(2)", tree.search(2), 1001);
    Check.same("search(1) with an entry of the depth 2", tree.search(1), 1000);
    counts(tree, 2, 0, 0);
    Check.same("search(2) with an entry of the depth 1", tree.search(2), 1001);
    counts(tree, 3, 1, 0);
  }

  // ---- SEARCH: the order of the moves

  /** All three moves are worth 2: the first of them that is tried is the best one. */
  @Holds(in = "Terms 4", says = "that of the entry for the POSITION, whatever its depth")
  static void moveOfTheEntryIsFirst() {
    KindlingTree tree = new KindlingTree();
    tree.search(2);
    entry(tree, 30, 2, 2, 0, 104);
    Check.same("search(1)", tree.search(1), 2);
    best(tree, 1, 4);
  }

  /** Without an entry the first one is 0-3. */
  @Holds(in = "Terms 4", says = "if the TABLE has one")
  static void noEntryNoFirstMove() {
    KindlingTree tree = new KindlingTree();
    tree.search(2);
    tree.empty();
    Check.same("search(1)", tree.search(1), 2);
    best(tree, 0, 3);
  }

  /** 9-12 wins; it would be left out, if 6x10 came again among all others. */
  @Holds(in = "Terms 4", says = "(by the entry and the KILLERS as they are then), each once")
  static void movesAreTriedOnce() {
    KindlingTree tree = Boards.of(3, 5, "000 200 100 122 000", 0);
    Check.same("moves", Boards.moves(tree), "6x10 9-12");
    Check.same("search(2)", tree.search(2), 1001);
    best(tree, 9, 12);
    Check.same("search(1)", tree.search(1), 1000);
    best(tree, 9, 12);
    counts(tree, 3, 0, 0);
  }

  /** 6-9 and 6x10 win both. */
  @Holds(in = "Terms 4", says = "those by which something is TAKEN, by their numbers")
  static void movesThatTakeAreAheadOfOthers() {
    KindlingTree tree = Boards.of(3, 4, "000 000 100 020", 0);
    Check.same("moves", Boards.moves(tree), "6-9 6x10");
    Check.same("search(1)", tree.search(1), 1000);
    best(tree, 6, 10);
  }

  /** 5x2 and 6x1 win both. */
  @Holds(in = "Terms 4", says = "those by which something is TAKEN, by their numbers")
  static void movesThatTakeGoByTheirNumbers() {
    KindlingTree tree = byPawns(4, 3, "0110 0220 0000", 1);
    Check.same("search(1)", tree.search(1), 1000);
    best(tree, 5, 2);
  }

  /** Behind 10-7 (in the slot 22) both killers win: the newer one was tried first. */
  @Holds(in = "Terms 4", says = "the KILLERS of the depth d, the newer one first")
  static void newerKillerIsFirst() {
    KindlingTree tree = byRows(3, 4, "000 200 101 020", 1);
    Check.same("search(2)", tree.search(2), 1001);
    counts(tree, 13, 0, 3);
    killers(tree, 1, 609, 811);
    entry(tree, 22, 1, 1000, 1, 609);
    entry(tree, 6, 1, 1000, 1, 811);
  }

  /** In the slot 17 the older killer 5-2 was tried ahead of 3-0, which wins as well. */
  @Holds(in = "Terms 4", says = "the KILLERS of the depth d, the newer one first")
  static void olderKillerIsAheadOfOthers() {
    KindlingTree tree = byRows(3, 5, "000 002 211 000 000", 0);
    Check.same("search(4)", tree.search(4), -1002);
    counts(tree, 25, 0, 5);
    killers(tree, 1, 811, 502);
    entry(tree, 17, 1, 1000, 2, 502);
  }

  /** 9-13 cuts behind 14-10; behind 19-15 (in the slot 2) it is a killer, but 9x14 is ahead. */
  @Holds(in = "Terms 4", says = "if they are MOVES here by which nothing is TAKEN")
  static void killersAreBehindMovesThatTake() {
    KindlingTree tree = Boards.of(4, 5, "0000 0000 0100 0020 0002", 1);
    Check.same("search(2)", tree.search(2), 1001);
    counts(tree, 10, 0, 2);
    killers(tree, 1, 913, -1);
    entry(tree, 2, 1, 4, 1, 914);
  }

  /** 6-3 and 8-5 are no moves where these pawns have gone or were taken. */
  @Holds(in = "Terms 4", says = "if they are MOVES here by which nothing is TAKEN")
  static void killersThatAreNoMovesAreLeftOut() {
    KindlingTree tree = new KindlingTree();
    PlainTree plain = new PlainTree();
    Check.same("search(4)", tree.search(4), plain.search(4));
    killers(tree, 1, 603, 805);
    Check.same("nodes()", tree.nodes(), plain.nodes);
    Check.same("cuts()", tree.cuts(), plain.cuts);
  }

  @Holds(in = "Terms 4", says = "all others, by their numbers")
  static void othersGoByTheirNumbers() {
    KindlingTree tree = Boards.of(3, 4, "001 000 000 022", 1);
    Check.same("search(1)", tree.search(1), 13);
    best(tree, 10, 7);
  }

  // ---- SEARCH: best, bound and cuts

  @Holds(in = "Terms 4", says = "With best at first lower than all numbers")
  static void bestOfMovesThatAllLose() {
    KindlingTree tree = Boards.of(3, 4, "000 010 000 002", 1);
    Check.same("search(1)", tree.search(1), -1000);
    best(tree, 11, 8);
    entry(tree, 27, 1, -1000, 0, 1108);
    Check.same("search(4)", tree.search(4), -1002);
    best(tree, 11, 8);
  }

  @Holds(in = "Terms 4",
      says = "if it is greater than best, it is best, and this MOVE the BEST one")
  static void equalNumberIsNotBest() {
    KindlingTree tree = new KindlingTree();
    Check.same("search(1)", tree.search(1), 2);
    Check.same("valueOf(1, 1)", tree.valueOf(1, 1), 2);
    Check.same("valueOf(2, 1)", tree.valueOf(2, 1), 2);
    best(tree, 0, 3);
  }

  /** Behind 9-5 the answer 6-10 is worth just the bound 1000: 7-11 is not tried. */
  @Holds(in = "Terms 4", says = "if best is high or more, that is a CUT: no more are tried")
  static void bestOfJustHighIsACut() {
    KindlingTree tree = byRows(4, 3, "0000 0011 0200", 1);
    Check.same("search(2)", tree.search(2), -1000);
    counts(tree, 8, 0, 1);
    entry(tree, 12, 1, 1000, 1, 610);
  }

  /** Behind the second move 6x4 is worth 1000, more than the bound: nothing else is tried. */
  @Holds(in = "Terms 4", says = "if best is high or more, that is a CUT: no more are tried")
  static void bestOfMoreThanHighIsACut() {
    KindlingTree tree = byRows(3, 4, "010 200 200 000", 0);
    Check.same("search(2)", tree.search(2), 1001);
    counts(tree, 7, 0, 1);
    entry(tree, 7, 1, 1000, 1, 604);
  }

  /** Behind 1-4 QUIET has 2 as its bound from 1x3: it needs no taking. */
  @Holds(in = "Terms 4", says = "otherwise bound is the greater one of bound and best")
  static void boundIsRaised() {
    KindlingTree tree = Boards.of(3, 3, "010 200 002", 0);
    Check.same("search(1)", tree.search(1), 2);
    counts(tree, 3, 0, 0);
  }

  /** With a bound that goes down with best there would be 18 nodes, and other kinds. */
  @Holds(in = "Terms 4", says = "otherwise bound is the greater one of bound and best")
  static void boundIsNotLowered() {
    KindlingTree tree = Boards.of(3, 4, "111 001 202 000", 0);
    Check.same("search(3)", tree.search(3), 1002);
    counts(tree, 16, 0, 2);
    entry(tree, 6, 1, 24, 2, 204);
  }

  // ---- SEARCH: killers and entries

  @Holds(in = "Terms 4", says = "By a CUT with a MOVE by which nothing is TAKEN")
  static void cutByATakingIsNoKiller() {
    KindlingTree tree = byRows(3, 4, "010 200 200 000", 0);
    tree.search(2);
    Check.same("cuts()", tree.cuts(), 1);
    killers(tree, 1, -1, -1);
  }

  @Holds(in = "Terms 4", says = "and the one that was newer is the older one")
  static void secondKillerMakesTheFirstTheOlder() {
    KindlingTree tree = new KindlingTree();
    tree.setUp(4, 4, 1);
    tree.search(3);
    killers(tree, 1, 206, 1208);
    killers(tree, 2, 1208, -1);
    killers(tree, 3, -1, -1);
  }

  /** 11-7 cuts twice. */
  @Holds(in = "Terms 4", says = "(nothing changes, if it was the newer one already")
  static void sameKillerAgainChangesNothing() {
    KindlingTree tree = byPawns(4, 5, "0000 0100 0022 0001 0000", 0);
    tree.search(2);
    Check.same("cuts()", tree.cuts(), 2);
    killers(tree, 1, 1107, -1);
  }

  /** 6-9, 8-11 and 6-9 again cut. */
  @Holds(in = "Terms 4", says = "if it was the older one, they change places")
  static void olderKillerAgainChangesPlaces() {
    KindlingTree tree = byRows(3, 5, "000 002 121 000 202", 1);
    Check.same("search(2)", tree.search(2), 1001);
    Check.same("cuts()", tree.cuts(), 3);
    killers(tree, 1, 609, 811);
  }

  @Holds(in = "Terms 4", says = "this is the newer one of the KILLERS of the depth d")
  static void killersOfEachDepth() {
    KindlingTree tree = byRows(3, 3, "010 002 000", 0);
    Check.same("search(3)", tree.search(3), 1002);
    killers(tree, 1, 502, -1);
    killers(tree, 2, 502, -1);
    killers(tree, 3, -1, -1);
  }

  @Holds(in = "Terms 4", says = "and AT LEAST, if best is high or more")
  static void entryOfJustHighIsAtLeast() {
    KindlingTree tree = byRows(4, 3, "0000 0011 0200", 1);
    tree.search(2);
    entry(tree, 12, 1, 1000, 1, 610);
  }

  @Holds(in = "Terms 4", says = "and AT LEAST, if best is high or more")
  static void entryOfMoreThanHighIsAtLeast() {
    KindlingTree tree = byPawns(3, 4, "000 010 002 000", 0);
    Check.same("search(2)", tree.search(2), 1001);
    entry(tree, 15, 1, 0, 1, 805);
  }

  @Holds(in = "Terms 4", says = "AT MOST, if best is low or less, otherwise EXACT")
  static void entryOfJustLowIsAtMost() {
    KindlingTree tree = byRows(3, 5, "000 110 002 000 000", 1);
    Check.same("search(3)", tree.search(3), 1000);
    entry(tree, 1, 1, 1000, 2, 502);
    entry(tree, 7, 1, 1000, 0, 401);
  }

  @Holds(in = "Terms 4", says = "AT MOST, if best is low or less, otherwise EXACT")
  static void entryOfLessThanLowIsAtMost() {
    KindlingTree tree = Boards.of(3, 5, "000 000 010 200 000", 0);
    Check.same("search(3)", tree.search(3), 1002);
    entry(tree, 6, 1, 1000, 2, 1013);
    entry(tree, 2, 3, 1002, 0, 709);
  }

  // ---- QUIET

  @Holds(in = "Terms 4", says = "it is a NODE, too")
  static void quietNodesCount() {
    KindlingTree tree = Boards.of(3, 4, "000 010 000 002", 1);
    tree.search(1);
    // the root, that behind 11-8 (counted once), and the lost one behind 4x8
    counts(tree, 3, 0, 0);
  }

  @Holds(in = "Terms 4", says = "(but as a part of SEARCH with the depth 0 that is counted once)")
  static void quietOfTheDepth0CountsOnce() {
    KindlingTree tree = Boards.of(3, 5, "000 120 000 000 000", 0);
    tree.search(1);
    counts(tree, 2, 0, 0);
  }

  @Holds(in = "Terms 4", says = "If the POSITION is LOST, it is - 1000. Otherwise")
  static void quietOfALostPosition() {
    KindlingTree tree = Boards.of(3, 4, "000 010 000 002", 1);
    Check.same("search(1), with a lost one two deep", tree.search(1), -1000);
    KindlingTree win = Boards.of(3, 5, "000 200 001 000 000", 1);
    Check.same("search(1), with a lost one at once", win.search(1), 1000);
  }

  /** 3 turns would do with 8 nodes, and tell 20. */
  @Holds(in = "Terms 4", says = "if quiet search is off, or t is 0, that is told.")
  static void quietGoesFourDeep() {
    KindlingTree tree = byPawns(3, 3, "101 202 222", 1);
    Check.same("search(1)", tree.search(1), 30);
    counts(tree, 10, 0, 0);
  }

  /** 5 turns would make 13 nodes. */
  @Holds(in = "Terms 4", says = "if quiet search is off, or t is 0, that is told.")
  static void quietGoesNoDeeperThanFour() {
    KindlingTree tree = byPawns(3, 4, "110 210 120 220", 0);
    Check.same("search(1)", tree.search(1), 1000);
    counts(tree, 11, 0, 0);
  }

  /** Behind 4-7 the taking 11x7 is not looked at. */
  @Holds(in = "Terms 4", says = "if quiet search is off, or t is 0, that is told.")
  static void quietSearchThatIsOff() {
    KindlingTree tree = byPawns(3, 4, "000 010 000 002", 0);
    tree.setQuiet(false);
    Check.same("search(1)", tree.search(1), 0);
    counts(tree, 2, 0, 0);
    tree.setQuiet(true);
    Check.same("search(1) with quiet search", tree.search(1), -1000);
    counts(tree, 3, 0, 0);
  }

  /** Behind 4-7 the evaluation is just the bound that 0-3 has set: 11x7 is not looked at. */
  @Holds(in = "Terms 4", says = "If best is high or more, it is told; otherwise")
  static void quietOfJustHighTakesNothing() {
    KindlingTree tree = byRows(3, 4, "100 010 000 002", 0);
    Check.same("search(1)", tree.search(1), 2);
    counts(tree, 3, 0, 0);
  }

  /** The number of a taking is just the bound: the next one is not looked at. */
  @Holds(in = "Terms 4", says = "till best is high or more")
  static void quietEndsAtJustHigh() {
    KindlingTree tree = byRows(3, 4, "101 100 020 002", 0);
    Check.same("search(1)", tree.search(1), 1);
    counts(tree, 6, 0, 0);
  }

  @Holds(in = "Terms 4", says = "till best is high or more")
  static void quietEndsAtMoreThanHigh() {
    KindlingTree tree = byRows(3, 3, "011 210 020", 0);
    Check.same("search(1)", tree.search(1), 0);
    counts(tree, 5, 0, 0);
  }

  @Holds(in = "Terms 4", says = "otherwise bound is the greater one of low and best")
  static void quietBoundIsItsEvaluation() {
    KindlingTree tree = Boards.of(3, 3, "111 100 002", 0);
    tree.setSlots(1);
    Check.same("search(1)", tree.search(1), 1000);
    counts(tree, 6, 0, 0);
  }

  @Holds(in = "Terms 4", says = "are tried, by their numbers, likewise")
  static void quietBoundIsRaised() {
    KindlingTree tree = byRows(3, 3, "110 220 200", 0);
    Check.same("search(1)", tree.search(1), -1000);
    counts(tree, 6, 0, 0);
  }

  @Holds(in = "Terms 4", says = "the MOVES by which something is TAKEN are tried, by their numbers")
  static void quietTriesTakingAlone() {
    // 4-1 would win behind 3-6, but takes nothing
    KindlingTree tree = byRows(3, 5, "000 120 000 000 000", 0);
    Check.same("search(1)", tree.search(1), 2 - 3);
    counts(tree, 2, 0, 0);
  }

  @Holds(in = "Terms 4", says = "Otherwise best is at first its EVALUATION")
  static void quietNeedNotTake() {
    KindlingTree tree = Boards.of(3, 3, "010 200 002", 0);
    Check.same("search(1)", tree.search(1), 2);
    best(tree, 1, 3);
    counts(tree, 3, 0, 0);
  }

  @Holds(in = "Terms 4", says = "(The TABLE and the KILLERS are not used.)")
  static void quietLeavesNoEntriesAndKillers() {
    KindlingTree tree = new KindlingTree();
    tree.search(1);
    counts(tree, 6, 0, 0);
    Check.same("entries()", tree.entries(), 1);
    killers(tree, 1, -1, -1);
    tree.setSlots(64);
    tree.setUp(3, 5, 2);
    tree.search(1);
    Check.yes("many quiet nodes", tree.nodes() > 4);
    Check.same("entries()", tree.entries(), 1);
  }

  // ---- the table

  @Holds(in = "Terms 4", says = "The TABLE has a number of SLOTS, 0 to 64 (32, at first).")
  static void slotsAtFirstAndAtTheirBounds() {
    KindlingTree tree = new KindlingTree();
    Check.same("slots()", tree.slots(), 32);
    Check.argument(tree, "setSlots(-1)", () -> tree.setSlots(-1));
    Check.argument(tree, "setSlots(65)", () -> tree.setSlots(65));
    tree.setSlots(0);
    Check.same("slots()", tree.slots(), 0);
    tree.setSlots(64);
    Check.same("slots()", tree.slots(), 64);
  }

  @Holds(in = "Terms 4", says = "in the end 2 times itself, and the side that is to move")
  static void keyOfTheLastFieldAndTheSide() {
    KindlingTree tree = Boards.of(3, 3, "000 000 000", 0);
    Check.same("key()", tree.key(), 0);
    tree.setSide(1);
    Check.same("key()", tree.key(), 1);
    tree.put(8, 1);
    Check.same("key()", tree.key(), 3);
    tree.put(8, 2);
    Check.same("key()", tree.key(), 5);
    tree.put(8, 0);
    tree.put(0, 2);
    Check.same("key()", tree.key(), 2 * 2 * 6561 + 1);
  }

  /** A key that 32 bits don't hold. */
  @Holds(in = "Terms 4", says = "An entry is put into the SLOT KEY % SLOTS")
  static void slotOfAGreatKey() {
    int[] sizes = {1, 2, 7, 32, 33, 63, 64};
    for (int slots : sizes) {
      KindlingTree tree = new KindlingTree();
      tree.setUp(5, 5, 1);
      tree.setSlots(slots);
      long key = 2 * Long.parseLong("1111100000000000000022222", 3);
      Check.yes("a great key", key > Integer.MAX_VALUE);
      tree.search(1);
      Check.same("ofSlot()", tree.ofSlot((int) (key % slots), 0), 1);
      Check.same("entries()", tree.entries(), 1);
    }
  }

  @Holds(in = "Terms 4", says = "in place of what is there")
  static void entryTakesThePlaceOfAnother() {
    KindlingTree tree = byRows(3, 5, "001 000 000 000 200", 0);
    tree.setSlots(1);
    tree.search(1);
    entry(tree, 0, 1, 1, 0, 205);
    tree.play(0);
    tree.search(1);
    entry(tree, 0, 1, 0, 0, 1209);
    Check.same("entries()", tree.entries(), 1);
  }

  @Holds(in = "Terms 4", says = "in place of what is there")
  static void entryTakesThePlaceOfADeeperOne() {
    KindlingTree tree = Boards.of(3, 3, "000 021 000", 1);
    tree.search(2);
    entry(tree, 27, 2, 1001, 0, 401);
    tree.search(1);
    entry(tree, 27, 1, 1000, 0, 401);
  }

  /** All positions share the one slot. */
  @Holds(in = "Terms 4", says = "it is one for a POSITION, if it has the same KEY")
  static void entryOfAnotherKeyIsNone() {
    KindlingTree tree = byPawns(3, 4, "100 002 000 000", 0);
    tree.setSlots(1);
    Check.same("search(2)", tree.search(2), -1000);
    counts(tree, 5, 0, 0);
    entry(tree, 0, 2, -1000, 0, 3);
    tree.setSide(1);
    Check.same("known() of the other side", tree.known(), 0);
  }

  /** 2324645422 and 564965361198 are the same number in 32 bits, and have the same slot. */
  @Holds(in = "Terms 4", says = "it is one for a POSITION, if it has the same KEY")
  static void entryOfAKeyThatIsTheSameIn32BitsIsNone() {
    KindlingTree tree = Boards.of(5, 5, "00000 10000 00001 00100 00022", 0);
    tree.search(1);
    long key = tree.key();
    Check.same("known()", tree.known(), 1);
    Boards.change(tree, "10000 00010 20100 00000 00200");
    Check.yes("another key", tree.key() != key && (int) tree.key() == (int) key);
    Check.same("known() of another key", tree.known(), 0);
    tree.search(1);
    Check.same("hits()", tree.hits(), 0);
    Check.same("known()", tree.known(), 1);
  }

  @Holds(in = "Terms 4", says = "With 0 SLOTS there are no entries.")
  static void noEntriesWithoutSlots() {
    KindlingTree tree = new KindlingTree();
    tree.setSlots(0);
    tree.setUp(4, 4, 1);
    Check.same("search(4)", tree.search(4), 0);
    Check.same("reached()", tree.reached(), 4);
    Check.same("entries()", tree.entries(), 0);
    Check.same("known()", tree.known(), 0);
    tree.search(4);
    Check.same("hits() of the same search", tree.hits(), 0);
    Check.yes("a best move", tree.bestFrom() >= 0);
  }

  @Holds(in = "Terms 4", says = "The TABLE stays from search to search")
  static void tableStaysFromSearchToSearch() {
    KindlingTree tree = new KindlingTree();
    tree.search(3);
    tree.play(1);
    tree.search(1);
    tree.back();
    Check.same("known()", tree.known(), 3);
  }

  @Holds(in = "Terms 4", says = "and as MOVES are played, taken back, or FIELDS changed")
  static void tableStaysAsTheBoardChanges() {
    KindlingTree tree = new KindlingTree();
    tree.search(3);
    int entries = tree.entries();
    tree.play(1);
    Check.same("entries() behind play()", tree.entries(), entries);
    tree.back();
    Check.same("entries() behind back()", tree.entries(), entries);
    tree.put(4, 1);
    tree.put(4, 0);
    Check.same("entries() behind put()", tree.entries(), entries);
    Check.same("known()", tree.known(), 3);
  }

  // ---- a search to a depth

  @Holds(in = "Terms 4", says = "there are no KILLERS, and NODES, HITS and CUTS are 0")
  static void searchStartsWithoutKillersAndCounts() {
    KindlingTree tree = byPawns(3, 4, "000 001 020 000", 1);
    tree.search(2);
    counts(tree, 7, 0, 1);
    killers(tree, 1, 508, -1);
    tree.play(0);
    tree.search(1);
    counts(tree, 2, 0, 0);
    killers(tree, 1, -1, -1);
    tree.search(1);
    counts(tree, 1, 1, 0);
    tree.search(1);
    counts(tree, 1, 1, 0);
  }

  /** With the depth 2 alone there would be 2 nodes. */
  @Holds(in = "Terms 4", says = "then for each depth d from 1 to D")
  static void searchGoesThroughAllDepths() {
    KindlingTree tree = Boards.of(4, 5, "0000 0000 0000 0102 0000", 0);
    for (int depth = 1; depth <= 4; depth++) {
      tree.empty();
      tree.search(depth);
      counts(tree, 2 * depth, 0, 0);
      Check.same("known()", tree.known(), depth);
    }
  }

  @Holds(in = "Terms 4", says = "the bounds -9999 and 9999")
  static void winsAndLossesAreWithinTheBounds() {
    KindlingTree win = Boards.of(3, 5, "000 200 001 000 000", 1);
    win.search(1);
    counts(win, 2, 0, 0);
    entry(win, 31, 1, 1000, 0, 300);
    killers(win, 1, -1, -1);
    KindlingTree loss = Boards.of(3, 4, "000 010 000 002", 1);
    loss.search(1);
    entry(loss, 27, 1, -1000, 0, 1108);
  }

  @Holds(in = "Terms 4", says = "If the NODES are more than 1000 behind one of these")
  static void nodes1000GoOn() {
    KindlingTree tree = Boards.of(4, 5, "0001 0100 1111 2220 2220", 0);
    tree.setSlots(0);
    tree.search(3);
    Check.same("nodes() behind the depth 3", tree.nodes(), 1000);
    tree.search(4);
    Check.same("nodes()", tree.nodes(), 2072);
    Check.same("reached()", tree.reached(), 4);
  }

  @Holds(in = "Terms 4", says = "If the NODES are more than 1000 behind one of these")
  static void nodes1001End() {
    KindlingTree tree = Boards.of(4, 4, "1101 0111 2222 0220", 0);
    tree.search(4);
    Check.same("nodes()", tree.nodes(), 1001);
    Check.same("reached()", tree.reached(), 3);
    Check.same("known()", tree.known(), 3);
  }

  @Holds(in = "Terms 4", says = "no greater depth is searched")
  static void resultIsThatOfTheDepthReached() {
    KindlingTree tree = Boards.of(4, 4, "1101 0111 2222 0220", 0);
    KindlingTree other = Boards.of(4, 4, "1101 0111 2222 0220", 0);
    Check.same("search(4)", tree.search(4), other.search(3));
    best(tree, other.bestFrom(), other.bestTo());
    Check.same("digest()", tree.digest(), other.digest());
  }

  @Holds(in = "Terms 4", says = "What is told by the last one, and its BEST MOVE, are the RESULT.")
  static void resultIsThatOfTheLastDepth() {
    KindlingTree tree = new KindlingTree();
    tree.search(1);
    best(tree, 0, 3);
    tree.empty();
    tree.search(2);
    best(tree, 1, 4);
  }

  /** Another search has found 1-4 meanwhile. */
  @Holds(in = "Terms 4", says = "(If that is a HIT, the BEST MOVE is that of the entry.)")
  static void bestOfAHitAtTheRoot() {
    KindlingTree tree = byRows(3, 5, "010 000 000 000 200", 0);
    tree.search(2);
    best(tree, 1, 4);
    tree.play(0);
    Check.same("search(1)", tree.search(1), 0);
    counts(tree, 1, 1, 0);
    best(tree, 12, 9);
  }
}
