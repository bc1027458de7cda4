/**
 * A library that searches trees of a game of pawns.
 *
 * <p>What each public call answers and throws is told by the project's document, by the same
 * names. A move is held by one number, from * 100 + to, as the document tells killers and entries.
 * All rows are made with the object, as what a run makes is never given back.
 */
public final class KindlingTree {
  private static final int LEAST_SIDE_OF_BOARD = 3;
  private static final int MOST_SIDE_OF_BOARD = 5;
  private static final int MOST_FIELDS = 25;
  private static final int MOST_PAWNS = 6;
  private static final int MOST_MOVES = 18;
  private static final int MOST_SLOTS = 64;
  private static final int MOST_PAGES = 30;
  private static final int MOST_BACK = 40;
  private static final int MOST_DEPTH = 4;
  private static final int MOST_VALUE_DEPTH = 3;
  private static final int QUIET_TURNS = 4;
  private static final int NODES_FOR_ANOTHER_DEPTH = 1000;
  private static final int MOVE_BASE = 100;
  private static final int NONE = -1;
  private static final int LOST = -1000;
  private static final int WIDEST = 9999;
  private static final int BELOW_ALL = -10000;
  private static final int EXACT = 0;
  private static final int AT_LEAST = 1;
  private static final int AT_MOST = 2;

  private final Board board;
  private final MoveList here;
  private final Trail trail;
  private final Judge judge;
  private final Table table;
  private final Valuer valuer;
  private final Seeker seeker;
  private final Book book;

  public KindlingTree() {
    Levels levels = new Levels();
    board = new Board();
    here = new MoveList();
    trail = new Trail();
    judge = new Judge();
    table = new Table();
    valuer = new Valuer(board, levels, new Quiet(board, judge, levels));
    seeker = new Seeker(board, levels, table, new Quiet(board, judge, levels));
    book = new Book();
    board.listMoves(here);
  }

  // ---- the board

  public int setUp(int columns, int rows, int full) throws IllegalArgumentException {
    if (!isWithin(columns, LEAST_SIDE_OF_BOARD, MOST_SIDE_OF_BOARD)
        || !isWithin(rows, LEAST_SIDE_OF_BOARD, MOST_SIDE_OF_BOARD)) {
      throw new IllegalArgumentException("columns or rows are not 3 to 5");
    }
    // long, so that no product wraps round into what is allowed
    if (full < 1 || 2L * full >= rows || (long) full * columns > MOST_PAWNS) {
      throw new IllegalArgumentException("so many full rows do not fit");
    }
    board.lay(columns, rows, full);
    table.wipe();
    startAnew();
    return 2 * full * columns;
  }

  public int put(int field, int what)
      throws IndexOutOfBoundsException, IllegalArgumentException, IllegalStateException {
    if (!board.isField(field)) {
      throw new IndexOutOfBoundsException("there is no such field");
    }
    if (!isWithin(what, 0, 2)) {
      throw new IllegalArgumentException("what is not 0 to 2");
    }
    int before = board.pawnAt(field);
    if (what != 0 && what != before && board.countPawns(what) >= MOST_PAWNS) {
      throw new IllegalStateException("a side has at most 6 pawns");
    }
    board.layOn(field, what);
    startAnew();
    return before;
  }

  public int setSide(int side) throws IllegalArgumentException {
    if (!isWithin(side, 0, 1)) {
      throw new IllegalArgumentException("side is not 0 or 1");
    }
    int before = board.mover();
    board.turnTo(side);
    startAnew();
    return before;
  }

  public int play(int move) throws IndexOutOfBoundsException {
    if (!here.has(move)) {
      throw new IndexOutOfBoundsException("there is no such move");
    }
    return playHere(move);
  }

  public int back() throws IllegalStateException {
    if (trail.length() == 0) {
      throw new IllegalStateException("there is nothing to take back");
    }
    board.retreat(trail.lastMove(), trail.lastTaken());
    trail.dropLast();
    board.listMoves(here);
    return trail.length();
  }

  // ---- what is set

  public int weigh(int m, int a, int f) throws IllegalArgumentException {
    if (!isWithin(m, 0, 50) || !isWithin(a, 0, 20) || !isWithin(f, 0, 10)) {
      throw new IllegalArgumentException("a weight is out of its bounds");
    }
    judge.setWeights(m, a, f);
    table.wipe();
    return judge.evaluate(board);
  }

  public boolean setQuiet(boolean isOn) {
    boolean was = judge.isQuietOn();
    if (was != isOn) {
      judge.switchQuiet(isOn);
      table.wipe();
    }
    return was;
  }

  public int setSlots(int slots) throws IllegalArgumentException {
    if (!isWithin(slots, 0, MOST_SLOTS)) {
      throw new IllegalArgumentException("slots is not 0 to 64");
    }
    int before = table.size();
    table.resize(slots);
    return before;
  }

  public int empty() {
    int before = table.countEntries();
    table.wipe();
    return before;
  }

  // ---- the board, asked

  public int columns() {
    return board.width();
  }

  public int rows() {
    return board.height();
  }

  public int at(int field) throws IndexOutOfBoundsException {
    if (!board.isField(field)) {
      throw new IndexOutOfBoundsException("there is no such field");
    }
    return board.pawnAt(field);
  }

  public int side() {
    return board.mover();
  }

  public int played() {
    return trail.length();
  }

  public int moves() {
    return here.size();
  }

  public int from(int move) throws IndexOutOfBoundsException {
    if (!here.has(move)) {
      throw new IndexOutOfBoundsException("there is no such move");
    }
    return fromOf(here.moveAt(move));
  }

  public int to(int move) throws IndexOutOfBoundsException {
    if (!here.has(move)) {
      throw new IndexOutOfBoundsException("there is no such move");
    }
    return toOf(here.moveAt(move));
  }

  public boolean takes(int move) throws IndexOutOfBoundsException {
    if (!here.has(move)) {
      throw new IndexOutOfBoundsException("there is no such move");
    }
    return here.isTaking(move);
  }

  public boolean isLost() {
    return isOver();
  }

  public long key() {
    return board.keyNumber();
  }

  public int evaluation() {
    return judge.evaluate(board);
  }

  public int ways(int depth) throws IllegalArgumentException {
    if (!isWithin(depth, 0, MOST_VALUE_DEPTH)) {
      throw new IllegalArgumentException("depth is not 0 to 3");
    }
    return valuer.countWays(depth);
  }

  // ---- values and the search

  public int value(int depth) throws IllegalArgumentException {
    if (!isWithin(depth, 0, MOST_VALUE_DEPTH)) {
      throw new IllegalArgumentException("depth is not 0 to 3");
    }
    return valuer.worth(depth, -WIDEST, WIDEST);
  }

  public int valueOf(int move, int depth)
      throws IndexOutOfBoundsException, IllegalArgumentException {
    if (!here.has(move)) {
      throw new IndexOutOfBoundsException("there is no such move");
    }
    if (!isWithin(depth, 1, MOST_VALUE_DEPTH)) {
      throw new IllegalArgumentException("depth is not 1 to 3");
    }
    return valuer.worthBehind(here.moveAt(move), depth, -WIDEST, WIDEST);
  }

  public int search(int depth) throws IllegalArgumentException, IllegalStateException {
    if (!isWithin(depth, 1, MOST_DEPTH)) {
      throw new IllegalArgumentException("depth is not 1 to 4");
    }
    if (isOver()) {
      throw new IllegalStateException("the position is lost");
    }
    return seeker.seek(depth);
  }

  public int bestFrom() {
    return fromOf(seeker.bestMove());
  }

  public int bestTo() {
    return toOf(seeker.bestMove());
  }

  public int reached() {
    return seeker.depthReached();
  }

  public int nodes() {
    return seeker.nodeCount();
  }

  public int hits() {
    return seeker.hitCount();
  }

  public int cuts() {
    return seeker.cutCount();
  }

  public int killer(int depth, boolean isOlder) {
    return seeker.killerOf(depth, isOlder);
  }

  // ---- the table, asked

  public int slots() {
    return table.size();
  }

  public int entries() {
    return table.countEntries();
  }

  // what: 0 its depth, 1 its number, 2 of which kind it is, 3 its move
  public int ofSlot(int slot, int what)
      throws IndexOutOfBoundsException, IllegalArgumentException {
    if (!table.isSlot(slot)) {
      throw new IndexOutOfBoundsException("there is no such slot");
    }
    if (!isWithin(what, 0, 3)) {
      throw new IllegalArgumentException("what is not 0 to 3");
    }
    return table.tell(slot, what);
  }

  public int known() {
    return table.depthAt(table.find(board.keyNumber()));
  }

  // ---- the book, and playing by itself

  public int teach(int move, int weight)
      throws IndexOutOfBoundsException, IllegalArgumentException, IllegalStateException {
    if (!here.has(move)) {
      throw new IndexOutOfBoundsException("there is no such move");
    }
    if (!isWithin(weight, 1, 99)) {
      throw new IllegalArgumentException("weight is not 1 to 99");
    }
    long key = board.keyNumber();
    int taught = here.moveAt(move);
    if (book.isFull() && book.find(key, taught) == NONE) {
      throw new IllegalStateException("the book is full");
    }
    book.write(key, taught, weight);
    return book.length();
  }

  public int told() {
    return book.choose(board.keyNumber(), here);
  }

  public int go(int depth) throws IllegalArgumentException, IllegalStateException {
    if (!isWithin(depth, 1, MOST_DEPTH)) {
      throw new IllegalArgumentException("depth is not 1 to 4");
    }
    if (isOver()) {
      throw new IllegalStateException("the position is lost");
    }
    return goOn(depth);
  }

  public int playOut(int depth, int most) throws IllegalArgumentException {
    if (!isWithin(depth, 1, MOST_VALUE_DEPTH)) {
      throw new IllegalArgumentException("depth is not 1 to 3");
    }
    if (!isWithin(most, 1, 10)) {
      throw new IllegalArgumentException("most is not 1 to 10");
    }
    int count = 0;
    while (count < most && !isOver()) {
      goOn(depth);
      count++;
    }
    return count;
  }

  public int pages() {
    return book.length();
  }

  public double effort() {
    int cuts = seeker.cutCount();
    return cuts == 0 ? 0.0 : (double) seeker.nodeCount() / cuts;
  }

  public long digest() {
    long d = addBoard(58036L);
    d = addMoves(d);
    d = addSearch(d);
    d = addTable(d);
    d = join(d, known());
    d = join(d, told());
    return join(d, book.length());
  }

  // ---- what the calls share

  private long addBoard(long start) {
    long d = join(join(start, board.width()), board.height());
    int fields = board.countFields();
    for (int field = 0; field < fields; field++) {
      d = join(d, board.pawnAt(field));
    }
    d = join(d, board.mover());
    d = join(d, trail.length());
    d = join(d, isOver() ? 1 : 0);
    d = join(d, board.keyNumber());
    return join(d, judge.evaluate(board));
  }

  private long addMoves(long start) {
    long d = join(start, here.size());
    for (int move = 0; move < here.size(); move++) {
      d = join(d, fromOf(here.moveAt(move)));
      d = join(d, toOf(here.moveAt(move)));
    }
    d = join(d, valuer.countWays(2));
    return join(d, valuer.worth(1, -WIDEST, WIDEST));
  }

  private long addSearch(long start) {
    long d = join(start, fromOf(seeker.bestMove()));
    d = join(d, toOf(seeker.bestMove()));
    d = join(d, seeker.depthReached());
    d = join(d, seeker.nodeCount());
    d = join(d, seeker.hitCount());
    d = join(d, seeker.cutCount());
    for (int depth = 1; depth <= MOST_DEPTH; depth++) {
      d = join(d, seeker.killerOf(depth, false));
      d = join(d, seeker.killerOf(depth, true));
    }
    return d;
  }

  private long addTable(long start) {
    long d = join(join(start, table.size()), table.countEntries());
    for (int slot = 0; slot < table.size(); slot++) {
      for (int what = 0; what <= 3; what++) {
        d = join(d, table.tell(slot, what));
      }
    }
    return d;
  }

  private static long join(long d, long x) {
    return d * 31 + x;
  }

  private static boolean isWithin(int number, int least, int most) {
    return number >= least && number <= most;
  }

  private static int fromOf(int move) {
    return move < 0 ? NONE : move / MOVE_BASE;
  }

  private static int toOf(int move) {
    return move < 0 ? NONE : move % MOVE_BASE;
  }

  /** A LOST position has no moves, and any other one has some. */
  private boolean isOver() {
    return here.size() == 0;
  }

  private void startAnew() {
    trail.clear();
    board.listMoves(here);
  }

  private int playHere(int number) {
    int move = here.moveAt(number);
    int taken = board.advance(move);
    trail.add(move, taken);
    board.listMoves(here);
    return taken;
  }

  private int goOn(int depth) {
    int number = book.choose(board.keyNumber(), here);
    if (number == NONE) {
      seeker.seek(depth);
      number = here.indexOf(seeker.bestMove());
    }
    playHere(number);
    return number;
  }

  /** What is on the fields, and the side that is to move. */
  private static final class Board {
    private final int[] cells;
    private int columns;
    private int rows;
    private int side;

    Board() {
      cells = new int[MOST_FIELDS];
      lay(3, 3, 1);
    }

    void lay(int newColumns, int newRows, int full) {
      columns = newColumns;
      rows = newRows;
      side = 0;
      int fields = columns * rows;
      int filled = full * columns;
      for (int field = 0; field < cells.length; field++) {
        boolean isFirst = field < filled;
        boolean isLast = field >= fields - filled && field < fields;
        cells[field] = isFirst ? 1 : isLast ? 2 : 0;
      }
    }

    void layOn(int field, int what) {
      if (isField(field)) {
        cells[field] = what;
      }
    }

    void turnTo(int newSide) {
      side = newSide;
    }

    int width() {
      return columns;
    }

    int height() {
      return rows;
    }

    int mover() {
      return side;
    }

    int countFields() {
      return columns * rows;
    }

    boolean isField(int field) {
      return field >= 0 && field < columns * rows && field < cells.length;
    }

    int pawnAt(int field) {
      return field >= 0 && field < cells.length ? cells[field] : 0;
    }

    int countPawns(int what) {
      int count = 0;
      for (int field = 0; field < cells.length; field++) {
        if (cells[field] == what) {
          count++;
        }
      }
      return count;
    }

    long keyNumber() {
      long number = 0;
      int fields = columns * rows;
      for (int field = 0; field < fields && field < cells.length; field++) {
        number = number * 3 + cells[field];
      }
      return number * 2 + side;
    }

    /** Plays a move on the fields alone; tells what was taken. */
    int advance(int move) {
      int from = fromOf(move);
      int to = toOf(move);
      if (!isField(from) || !isField(to)) {
        return 0;
      }
      int taken = cells[to];
      cells[to] = cells[from];
      cells[from] = 0;
      side = 1 - side;
      return taken;
    }

    void retreat(int move, int taken) {
      int from = fromOf(move);
      int to = toOf(move);
      if (isField(from) && isField(to)) {
        cells[from] = cells[to];
        cells[to] = taken;
        side = 1 - side;
      }
    }

    void listMoves(MoveList list) {
      list.clear();
      if (isOtherThrough()) {
        return;
      }
      for (int row = 0; row < rows; row++) {
        for (int column = 0; column < columns; column++) {
          if (pawnAt(row * columns + column) == side + 1) {
            listSteps(list, row, column);
          }
        }
      }
    }

    private boolean isOtherThrough() {
      int start = side == 0 ? 0 : (rows - 1) * columns;
      for (int column = 0; column < columns; column++) {
        if (pawnAt(start + column) == 2 - side) {
          return true;
        }
      }
      return false;
    }

    private void listSteps(MoveList list, int row, int column) {
      int from = row * columns + column;
      int ahead = side == 0 ? from + columns : from - columns;
      for (int aside = -1; aside <= 1; aside++) {
        if (canStep(row, column, aside)) {
          list.add(from * MOVE_BASE + ahead + aside, aside != 0);
        }
      }
    }

    /** Whether the pawn there, of whichever side, can go ahead and aside by -1, 0 or 1 columns. */
    boolean canStep(int row, int column, int aside) {
      int from = row * columns + column;
      int toColumn = column + aside;
      if (from < 0 || from >= cells.length || toColumn < 0 || toColumn >= columns) {
        return false;
      }
      int what = cells[from];
      int toRow = what == 1 ? row + 1 : row - 1;
      int to = toRow * columns + toColumn;
      if (what == 0 || toRow < 0 || toRow >= rows || to < 0 || to >= cells.length) {
        return false;
      }
      return aside == 0 ? cells[to] == 0 : cells[to] == 3 - what;
    }
  }

  /** The moves of one position by their numbers, and an order in which they are tried. */
  private static final class MoveList {
    private final int[] moves;
    private final boolean[] taking;
    private final int[] order;
    private final boolean[] isPlaced;
    private int count;
    private int placed;

    MoveList() {
      moves = new int[MOST_MOVES];
      taking = new boolean[MOST_MOVES];
      order = new int[MOST_MOVES];
      isPlaced = new boolean[MOST_MOVES];
    }

    void clear() {
      count = 0;
    }

    void add(int move, boolean isOneThatTakes) {
      if (count >= 0 && count < moves.length && count < taking.length) {
        moves[count] = move;
        taking[count] = isOneThatTakes;
        count++;
      }
    }

    int size() {
      return count;
    }

    boolean has(int number) {
      return number >= 0 && number < count;
    }

    int moveAt(int number) {
      return number >= 0 && number < count && number < moves.length ? moves[number] : NONE;
    }

    boolean isTaking(int number) {
      return number >= 0 && number < count && number < taking.length && taking[number];
    }

    int indexOf(int move) {
      for (int number = 0; number < count && number < moves.length; number++) {
        if (moves[number] == move) {
          return number;
        }
      }
      return NONE;
    }

    void arrange(int entryMove, int newerKiller, int olderKiller) {
      placed = 0;
      for (int i = 0; i < isPlaced.length; i++) {
        isPlaced[i] = false;
      }
      place(indexOf(entryMove));
      for (int number = 0; number < count; number++) {
        if (isTaking(number)) {
          place(number);
        }
      }
      // a killer that takes something here has its place already
      place(indexOf(newerKiller));
      place(indexOf(olderKiller));
      for (int number = 0; number < count; number++) {
        place(number);
      }
    }

    private void place(int number) {
      if (number >= 0 && number < isPlaced.length && !isPlaced[number]
          && placed >= 0 && placed < order.length) {
        isPlaced[number] = true;
        order[placed] = number;
        placed++;
      }
    }

    int inOrder(int turn) {
      return turn >= 0 && turn < placed && turn < order.length ? order[turn] : NONE;
    }
  }

  /** A list of moves for each level of a tree, so that no call makes one. */
  private static final class Levels {
    private final MoveList[] lists;
    private final MoveList spare;

    Levels() {
      lists = new MoveList[QUIET_TURNS + MOST_DEPTH + 1];
      for (int i = 0; i < lists.length; i++) {
        lists[i] = new MoveList();
      }
      spare = new MoveList();
    }

    MoveList ofDepth(int depth) {
      return ofTurns(QUIET_TURNS + depth);
    }

    MoveList ofTurns(int turns) {
      MoveList list = turns >= 0 && turns < lists.length ? lists[turns] : spare;
      return list == null ? spare : list;
    }
  }

  /** The latest moves that were played, the oldest one first. */
  private static final class Trail {
    private final int[] moves;
    private final int[] taken;
    private int count;

    Trail() {
      moves = new int[MOST_BACK];
      taken = new int[MOST_BACK];
    }

    void clear() {
      count = 0;
    }

    int length() {
      return count;
    }

    void add(int move, int what) {
      if (count >= moves.length) {
        forgetOldest();
      }
      if (count >= 0 && count < moves.length && count < taken.length) {
        moves[count] = move;
        taken[count] = what;
        count++;
      }
    }

    private void forgetOldest() {
      for (int i = 0; i + 1 < moves.length && i + 1 < taken.length; i++) {
        moves[i] = moves[i + 1];
        taken[i] = taken[i + 1];
      }
      count--;
    }

    int lastMove() {
      int last = count - 1;
      return last >= 0 && last < moves.length ? moves[last] : NONE;
    }

    int lastTaken() {
      int last = count - 1;
      return last >= 0 && last < taken.length ? taken[last] : 0;
    }

    void dropLast() {
      if (count > 0) {
        count--;
      }
    }
  }

  /** What is set for valuing: the weights, and whether quiet search is on. */
  private static final class Judge {
    private int perPawn = 10;
    private int perRow = 2;
    private int perStep = 1;
    private boolean isQuiet = true;

    void setWeights(int m, int a, int f) {
      perPawn = m;
      perRow = a;
      perStep = f;
    }

    boolean isQuietOn() {
      return isQuiet;
    }

    void switchQuiet(boolean isOn) {
      isQuiet = isOn;
    }

    int evaluate(Board board) {
      int sum = 0;
      int own = board.mover() + 1;
      for (int row = 0; row < board.height(); row++) {
        for (int column = 0; column < board.width(); column++) {
          int what = board.pawnAt(row * board.width() + column);
          if (what != 0) {
            int worth = weighPawn(board, row, column, what);
            sum += what == own ? worth : -worth;
          }
        }
      }
      return sum;
    }

    private int weighPawn(Board board, int row, int column, int what) {
      int gone = what == 1 ? row : board.height() - 1 - row;
      int steps = 0;
      for (int aside = -1; aside <= 1; aside++) {
        if (board.canStep(row, column, aside)) {
          steps++;
        }
      }
      return perPawn + perRow * gone + perStep * steps;
    }
  }

  /** QUIET: looks on as long as something can be taken. */
  private static final class Quiet {
    private final Board board;
    private final Judge judge;
    private final Levels levels;
    private int nodes;

    Quiet(Board itsBoard, Judge itsJudge, Levels itsLevels) {
      board = itsBoard;
      judge = itsJudge;
      levels = itsLevels;
    }

    void clearCount() {
      nodes = 0;
    }

    int nodeCount() {
      return nodes;
    }

    private int lookOn(int turns, int low, int high) {
      nodes++;
      MoveList list = levels.ofTurns(turns);
      board.listMoves(list);
      if (list.size() == 0) {
        return LOST;
      }
      int best = judge.evaluate(board);
      if (turns <= 0 || !judge.isQuietOn()) {
        return best;
      }
      int bound = Math.max(low, best);
      for (int number = 0; number < list.size() && best < high; number++) {
        if (list.isTaking(number)) {
          best = Math.max(best, behind(list.moveAt(number), turns, bound, high));
          bound = Math.max(bound, best);
        }
      }
      return best;
    }

    private int behind(int move, int turns, int low, int high) {
      int taken = board.advance(move);
      int number = -lookOn(turns - 1, -high, -low);
      board.retreat(move, taken);
      return number;
    }
  }

  /** The VALUE and the ways to go on, without the table, killers or counts of the search. */
  private static final class Valuer {
    private final Board board;
    private final Levels levels;
    private final Quiet quiet;

    Valuer(Board itsBoard, Levels itsLevels, Quiet itsQuiet) {
      board = itsBoard;
      levels = itsLevels;
      quiet = itsQuiet;
    }

    private int countWays(int depth) {
      if (depth <= 0) {
        return 1;
      }
      MoveList list = levels.ofDepth(depth);
      board.listMoves(list);
      int sum = 0;
      for (int number = 0; number < list.size(); number++) {
        sum += countBehind(list.moveAt(number), depth);
      }
      return sum;
    }

    private int countBehind(int move, int depth) {
      int taken = board.advance(move);
      int count = countWays(depth - 1);
      board.retreat(move, taken);
      return count;
    }

    /** The VALUE, if it is between the bounds; the bounds only spare what cannot change it. */
    private int worth(int depth, int low, int high) {
      if (depth <= 0) {
        return quiet.lookOn(QUIET_TURNS, low, high);
      }
      MoveList list = levels.ofDepth(depth);
      board.listMoves(list);
      if (list.size() == 0) {
        return LOST - depth;
      }
      int best = BELOW_ALL;
      int bound = low;
      for (int number = 0; number < list.size() && best < high; number++) {
        best = Math.max(best, worthBehind(list.moveAt(number), depth, bound, high));
        bound = Math.max(bound, best);
      }
      return best;
    }

    private int worthBehind(int move, int depth, int low, int high) {
      int taken = board.advance(move);
      int number = -worth(depth - 1, -high, -low);
      board.retreat(move, taken);
      return number;
    }
  }

  /** The positions that were seen; an entry has a depth of 1 or more, an empty slot 0. */
  private static final class Table {
    private final long[] keys;
    private final int[] depths;
    private final int[] numbers;
    private final int[] kinds;
    private final int[] moves;
    private int slots;

    Table() {
      keys = new long[MOST_SLOTS];
      depths = new int[MOST_SLOTS];
      numbers = new int[MOST_SLOTS];
      kinds = new int[MOST_SLOTS];
      moves = new int[MOST_SLOTS];
      slots = 32;
    }

    int size() {
      return slots;
    }

    void resize(int newSlots) {
      slots = newSlots;
      wipe();
    }

    void wipe() {
      for (int slot = 0; slot < depths.length; slot++) {
        depths[slot] = 0;
      }
    }

    int countEntries() {
      int count = 0;
      for (int slot = 0; slot < depths.length; slot++) {
        if (depths[slot] > 0) {
          count++;
        }
      }
      return count;
    }

    boolean isSlot(int slot) {
      return slot >= 0 && slot < slots && slot < MOST_SLOTS;
    }

    private int slotOf(long key) {
      return slots > 0 ? (int) (key % slots) : NONE;
    }

    /** The slot with the entry for a position, or NONE. */
    int find(long key) {
      int slot = slotOf(key);
      return depthAt(slot) > 0 && keyAt(slot) == key ? slot : NONE;
    }

    void store(long key, int depth, int number, int kind, int move) {
      int slot = slotOf(key);
      if (isSlot(slot) && slot < keys.length && slot < depths.length && slot < numbers.length
          && slot < kinds.length && slot < moves.length) {
        keys[slot] = key;
        depths[slot] = depth;
        numbers[slot] = number;
        kinds[slot] = kind;
        moves[slot] = move;
      }
    }

    /** Whether the entry in a slot answers a search with this depth and these bounds. */
    boolean isAnswer(int slot, int depth, int low, int high) {
      if (depthAt(slot) != depth) {
        return false;
      }
      int kind = kindAt(slot);
      int number = numberAt(slot);
      return kind == EXACT || (kind == AT_LEAST && number >= high)
          || (kind == AT_MOST && number <= low);
    }

    int tell(int slot, int what) {
      if (depthAt(slot) == 0) {
        return NONE;
      }
      switch (what) {
        case 0:
          return depthAt(slot);
        case 1:
          return numberAt(slot);
        case 2:
          return kindAt(slot);
        default:
          return moveAt(slot);
      }
    }

    private long keyAt(int slot) {
      return slot >= 0 && slot < keys.length ? keys[slot] : NONE;
    }

    int depthAt(int slot) {
      return slot >= 0 && slot < depths.length ? depths[slot] : 0;
    }

    int numberAt(int slot) {
      return slot >= 0 && slot < numbers.length ? numbers[slot] : 0;
    }

    private int kindAt(int slot) {
      return slot >= 0 && slot < kinds.length ? kinds[slot] : NONE;
    }

    int moveAt(int slot) {
      return slot >= 0 && slot < moves.length ? moves[slot] : NONE;
    }
  }

  /** For each depth the two moves that cut latest. */
  private static final class Killers {
    private final int[] newer;
    private final int[] older;

    Killers() {
      newer = new int[MOST_DEPTH + 1];
      older = new int[MOST_DEPTH + 1];
      clear();
    }

    void clear() {
      for (int depth = 0; depth < newer.length && depth < older.length; depth++) {
        newer[depth] = NONE;
        older[depth] = NONE;
      }
    }

    int newerOf(int depth) {
      return depth >= 0 && depth < newer.length ? newer[depth] : NONE;
    }

    int olderOf(int depth) {
      return depth >= 0 && depth < older.length ? older[depth] : NONE;
    }

    void note(int depth, int move) {
      if (depth >= 0 && depth < newer.length && depth < older.length && newer[depth] != move) {
        older[depth] = newer[depth];
        newer[depth] = move;
      }
    }
  }

  /** The search, and what the latest one told. */
  private static final class Seeker {
    private final Board board;
    private final Levels levels;
    private final Table table;
    private final Quiet quiet;
    private final Killers killers;
    private int best;
    private int reached;
    private int nodes;
    private int hits;
    private int cuts;

    Seeker(Board itsBoard, Levels itsLevels, Table itsTable, Quiet itsQuiet) {
      board = itsBoard;
      levels = itsLevels;
      table = itsTable;
      quiet = itsQuiet;
      killers = new Killers();
      best = NONE;
    }

    int bestMove() {
      return best;
    }

    int depthReached() {
      return reached;
    }

    int nodeCount() {
      return nodes + quiet.nodeCount();
    }

    int hitCount() {
      return hits;
    }

    int cutCount() {
      return cuts;
    }

    int killerOf(int depth, boolean isOlder) {
      return isOlder ? killers.olderOf(depth) : killers.newerOf(depth);
    }

    int seek(int depth) {
      killers.clear();
      quiet.clearCount();
      nodes = 0;
      hits = 0;
      cuts = 0;
      int number = 0;
      for (int d = 1; d <= depth && nodeCount() <= NODES_FOR_ANOTHER_DEPTH; d++) {
        number = explore(d, -WIDEST, WIDEST);
        reached = d;
      }
      return number;
    }

    /** SEARCH; the one that ends last is that of the root, so its best move is what stays. */
    private int explore(int depth, int low, int high) {
      if (depth <= 0) {
        return quiet.lookOn(QUIET_TURNS, low, high);
      }
      nodes++;
      MoveList list = levels.ofDepth(depth);
      board.listMoves(list);
      if (list.size() == 0) {
        return LOST - depth;
      }
      long key = board.keyNumber();
      int slot = table.find(key);
      if (table.isAnswer(slot, depth, low, high)) {
        hits++;
        best = table.moveAt(slot);
        return table.numberAt(slot);
      }
      list.arrange(table.moveAt(slot), killers.newerOf(depth), killers.olderOf(depth));
      return tryMoves(list, key, depth, low, high);
    }

    private int tryMoves(MoveList list, long key, int depth, int low, int high) {
      int greatest = BELOW_ALL;
      int bestHere = NONE;
      int bound = low;
      for (int turn = 0; turn < list.size() && greatest < high; turn++) {
        int move = list.moveAt(list.inOrder(turn));
        int number = behind(move, depth, bound, high);
        if (number > greatest) {
          greatest = number;
          bestHere = move;
        }
        bound = Math.max(bound, greatest);
      }
      if (greatest >= high) {
        noteCut(list, depth, bestHere);
      }
      int kind = greatest >= high ? AT_LEAST : greatest <= low ? AT_MOST : EXACT;
      table.store(key, depth, greatest, kind, bestHere);
      best = bestHere;
      return greatest;
    }

    private int behind(int move, int depth, int low, int high) {
      int taken = board.advance(move);
      int number = -explore(depth - 1, -high, -low);
      board.retreat(move, taken);
      return number;
    }

    private void noteCut(MoveList list, int depth, int move) {
      cuts++;
      if (!list.isTaking(list.indexOf(move))) {
        killers.note(depth, move);
      }
    }
  }

  /** The moves that are told without a search. */
  private static final class Book {
    private final long[] keys;
    private final int[] moves;
    private final int[] weights;
    private int count;

    Book() {
      keys = new long[MOST_PAGES];
      moves = new int[MOST_PAGES];
      weights = new int[MOST_PAGES];
    }

    int length() {
      return count;
    }

    boolean isFull() {
      return count >= MOST_PAGES;
    }

    int find(long key, int move) {
      for (int page = 0; page < count && page < keys.length && page < moves.length; page++) {
        if (keys[page] == key && moves[page] == move) {
          return page;
        }
      }
      return NONE;
    }

    void write(long key, int move, int weight) {
      int page = find(key, move);
      if (page < 0) {
        page = count;
      }
      if (page >= 0 && page < keys.length && page < moves.length && page < weights.length) {
        keys[page] = key;
        moves[page] = move;
        weights[page] = weight;
        count = Math.max(count, page + 1);
      }
    }

    /** The number of the move that is told for a position with these moves, or NONE. */
    int choose(long key, MoveList list) {
      int chosen = NONE;
      int greatest = 0;
      for (int number = 0; number < list.size(); number++) {
        int weight = weightAt(find(key, list.moveAt(number)));
        if (weight > greatest) {
          greatest = weight;
          chosen = number;
        }
      }
      return chosen;
    }

    private int weightAt(int page) {
      return page >= 0 && page < weights.length ? weights[page] : 0;
    }
  }
}
