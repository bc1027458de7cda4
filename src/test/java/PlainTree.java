import java.util.ArrayList;
import java.util.HashMap;
import java.util.List;
import java.util.Map;

/**
 * The document told once more, word by word and without regard to cost, to compare KindlingTree
 * with. It shares no code with it: positions are texts, VALUES are found without bounds.
 */
final class PlainTree {
  /** A position: the fields as digits, and the side that is to move. */
  record Position(int columns, int rows, String fields, int side) {
    int at(int column, int row) {
      if (column < 0 || column >= columns || row < 0 || row >= rows) {
        return -1;
      }
      return fields.charAt(row * columns + column) - '0';
    }

    List<int[]> steps(int ofSide) {
      List<int[]> found = new ArrayList<>();
      int next = ofSide == 0 ? 1 : -1;
      for (int from = 0; from < columns * rows; from++) {
        int column = from % columns;
        int row = from / columns;
        if (at(column, row) != ofSide + 1) {
          continue;
        }
        for (int to = 0; to < columns * rows; to++) {
          if (to / columns != row + next) {
            continue;
          }
          int aside = Math.abs(to % columns - column);
          int there = at(to % columns, to / columns);
          if (aside == 0 && there == 0 || aside == 1 && there == 2 - ofSide) {
            found.add(new int[] {from, to});
          }
        }
      }
      return found;
    }

    boolean isLost() {
      int other = 1 - side;
      int lastRow = other == 0 ? rows - 1 : 0;
      for (int column = 0; column < columns; column++) {
        if (at(column, lastRow) == other + 1) {
          return true;
        }
      }
      return steps(side).isEmpty();
    }

    List<int[]> moves() {
      return isLost() ? new ArrayList<>() : steps(side);
    }

    int there(int field) {
      return fields.charAt(field) - '0';
    }

    boolean takes(int[] move) {
      return there(move[1]) != 0;
    }

    Position with(int field, int what) {
      return new Position(columns, rows,
          fields.substring(0, field) + what + fields.substring(field + 1), side);
    }

    Position behind(int[] move) {
      Position p = with(move[1], there(move[0])).with(move[0], 0);
      return new Position(columns, rows, p.fields, 1 - side);
    }

    long key() {
      return Long.parseLong(fields, 3) * 2 + side;
    }

    int pawns(int ofSide) {
      int n = 0;
      for (int i = 0; i < fields.length(); i++) {
        n += there(i) == ofSide + 1 ? 1 : 0;
      }
      return n;
    }

    int gone(int ofSide) {
      int n = 0;
      for (int i = 0; i < fields.length(); i++) {
        if (there(i) == ofSide + 1) {
          n += ofSide == 0 ? i / columns : rows - 1 - i / columns;
        }
      }
      return n;
    }
  }

  record Entry(long key, int depth, int number, int kind, int[] move) {}

  record Page(long key, int from, int to, int weight) {}

  Position now;
  final List<Position> before = new ArrayList<>();
  int m = 10;
  int a = 2;
  int f = 1;
  boolean quiet = true;
  int slots = 32;
  final Map<Integer, Entry> table = new HashMap<>();
  final Map<Integer, List<int[]>> killers = new HashMap<>();
  final List<Page> book = new ArrayList<>();
  int[] best = {-1, -1};
  int reached;
  int nodes;
  int hits;
  int cuts;

  PlainTree() {
    now = new Position(3, 3, "111000222", 0);
  }

  private static void bad(boolean isBad) {
    if (isBad) {
      throw new IllegalArgumentException();
    }
  }

  private int[] moveOrThrow(int move) {
    if (move < 0 || move >= now.moves().size()) {
      throw new IndexOutOfBoundsException();
    }
    return now.moves().get(move);
  }

  private void fieldOrThrow(int field) {
    if (field < 0 || field >= now.fields.length()) {
      throw new IndexOutOfBoundsException();
    }
  }

  int setUp(int columns, int rows, int full) {
    bad(columns < 3 || columns > 5 || rows < 3 || rows > 5 || full < 1);
    bad(2.0 * full >= rows || 1.0 * full * columns > 6);
    String s = "1".repeat(full * columns) + "0".repeat((rows - 2 * full) * columns)
        + "2".repeat(full * columns);
    now = new Position(columns, rows, s, 0);
    before.clear();
    table.clear();
    return now.pawns(0) + now.pawns(1);
  }

  int put(int field, int what) {
    fieldOrThrow(field);
    bad(what < 0 || what > 2);
    Position then = now.with(field, what);
    if (then.pawns(0) > 6 || then.pawns(1) > 6) {
      throw new IllegalStateException();
    }
    int was = now.there(field);
    now = then;
    before.clear();
    return was;
  }

  int setSide(int side) {
    bad(side != 0 && side != 1);
    int was = now.side;
    now = new Position(now.columns, now.rows, now.fields, side);
    before.clear();
    return was;
  }

  int play(int move) {
    int[] it = moveOrThrow(move);
    int taken = now.there(it[1]);
    before.add(now);
    if (before.size() > 40) {
      before.remove(0);
    }
    now = now.behind(it);
    return taken;
  }

  int back() {
    if (before.isEmpty()) {
      throw new IllegalStateException();
    }
    now = before.remove(before.size() - 1);
    return before.size();
  }

  int weigh(int newM, int newA, int newF) {
    bad(newM < 0 || newM > 50 || newA < 0 || newA > 20 || newF < 0 || newF > 10);
    m = newM;
    a = newA;
    f = newF;
    table.clear();
    return evaluation(now);
  }

  boolean setQuiet(boolean isOn) {
    boolean was = quiet;
    if (was != isOn) {
      table.clear();
    }
    quiet = isOn;
    return was;
  }

  int setSlots(int newSlots) {
    bad(newSlots < 0 || newSlots > 64);
    int was = slots;
    slots = newSlots;
    table.clear();
    return was;
  }

  int empty() {
    int was = table.size();
    table.clear();
    return was;
  }

  int at(int field) {
    fieldOrThrow(field);
    return now.there(field);
  }

  int from(int move) {
    return moveOrThrow(move)[0];
  }

  int to(int move) {
    return moveOrThrow(move)[1];
  }

  boolean takes(int move) {
    return now.takes(moveOrThrow(move));
  }

  int evaluation(Position p) {
    int own = p.side;
    int other = 1 - own;
    return m * (p.pawns(own) - p.pawns(other)) + a * (p.gone(own) - p.gone(other))
        + f * (p.steps(own).size() - p.steps(other).size());
  }

  int ways(int depth) {
    bad(depth < 0 || depth > 3);
    return ways(now, depth);
  }

  private int ways(Position p, int depth) {
    if (depth == 0) {
      return 1;
    }
    int n = 0;
    for (int[] move : p.moves()) {
      n += ways(p.behind(move), depth - 1);
    }
    return n;
  }

  int value(int depth) {
    bad(depth < 0 || depth > 3);
    return value(now, depth);
  }

  int valueOf(int move, int depth) {
    int[] it = moveOrThrow(move);
    bad(depth < 1 || depth > 3);
    return -value(now.behind(it), depth - 1);
  }

  private int value(Position p, int d) {
    if (p.isLost()) {
      return -1000 - d;
    }
    if (d == 0) {
      return quietValue(p, 4);
    }
    int greatest = Integer.MIN_VALUE;
    for (int[] move : p.moves()) {
      greatest = Math.max(greatest, -value(p.behind(move), d - 1));
    }
    return greatest;
  }

  private int quietValue(Position p, int t) {
    if (p.isLost()) {
      return -1000;
    }
    int greatest = evaluation(p);
    if (!quiet || t == 0) {
      return greatest;
    }
    for (int[] move : p.moves()) {
      if (p.takes(move)) {
        greatest = Math.max(greatest, -quietValue(p.behind(move), t - 1));
      }
    }
    return greatest;
  }

  int search(int depth) {
    bad(depth < 1 || depth > 4);
    if (now.isLost()) {
      throw new IllegalStateException();
    }
    killers.clear();
    nodes = 0;
    hits = 0;
    cuts = 0;
    int[] bestOut = new int[2];
    int told = 0;
    for (int d = 1; d <= depth; d++) {
      told = searching(now, d, -9999, 9999, bestOut);
      reached = d;
      if (nodes > 1000) {
        break;
      }
    }
    best = bestOut;
    return told;
  }

  private Entry entryFor(Position p) {
    if (slots == 0) {
      return null;
    }
    Entry e = table.get((int) (p.key() % slots));
    return e != null && e.key == p.key() ? e : null;
  }

  private static void append(List<int[]> order, int[] move) {
    for (int[] known : order) {
      if (known[0] == move[0] && known[1] == move[1]) {
        return;
      }
    }
    order.add(move);
  }

  private List<int[]> order(Position p, Entry entry, int d) {
    List<int[]> order = new ArrayList<>();
    if (entry != null) {
      append(order, entry.move);
    }
    for (int[] move : p.moves()) {
      if (p.takes(move)) {
        append(order, move);
      }
    }
    for (int[] killer : killers.getOrDefault(d, List.of())) {
      for (int[] move : p.moves()) {
        if (move[0] == killer[0] && move[1] == killer[1] && !p.takes(move)) {
          append(order, move);
        }
      }
    }
    for (int[] move : p.moves()) {
      append(order, move);
    }
    return order;
  }

  private void newKiller(int d, int[] move) {
    List<int[]> known = killers.computeIfAbsent(d, x -> new ArrayList<>());
    known.removeIf(k -> k[0] == move[0] && k[1] == move[1]);
    known.add(0, move);
    while (known.size() > 2) {
      known.remove(2);
    }
  }

  private int searching(Position p, int d, int low, int high, int[] bestOut) {
    nodes++;
    if (p.isLost()) {
      return -1000 - d;
    }
    if (d == 0) {
      nodes--;
      return quieting(p, 4, low, high);
    }
    Entry entry = entryFor(p);
    if (entry != null && entry.depth == d && (entry.kind == 0
        || entry.kind == 1 && entry.number >= high || entry.kind == 2 && entry.number <= low)) {
      hits++;
      bestOut[0] = entry.move[0];
      bestOut[1] = entry.move[1];
      return entry.number;
    }
    int greatest = Integer.MIN_VALUE;
    int bound = low;
    for (int[] move : order(p, entry, d)) {
      int number = -searching(p.behind(move), d - 1, -high, -bound, new int[2]);
      if (number > greatest) {
        greatest = number;
        bestOut[0] = move[0];
        bestOut[1] = move[1];
      }
      if (greatest >= high) {
        cuts++;
        if (!p.takes(move)) {
          newKiller(d, move);
        }
        break;
      }
      bound = Math.max(bound, greatest);
    }
    if (slots > 0) {
      int kind = greatest >= high ? 1 : greatest <= low ? 2 : 0;
      table.put((int) (p.key() % slots),
          new Entry(p.key(), d, greatest, kind, new int[] {bestOut[0], bestOut[1]}));
    }
    return greatest;
  }

  private int quieting(Position p, int t, int low, int high) {
    nodes++;
    if (p.isLost()) {
      return -1000;
    }
    int greatest = evaluation(p);
    if (!quiet || t == 0 || greatest >= high) {
      return greatest;
    }
    int bound = Math.max(low, greatest);
    for (int[] move : p.moves()) {
      if (!p.takes(move)) {
        continue;
      }
      greatest = Math.max(greatest, -quieting(p.behind(move), t - 1, -high, -bound));
      if (greatest >= high) {
        break;
      }
      bound = Math.max(bound, greatest);
    }
    return greatest;
  }

  int killer(int depth, boolean isOlder) {
    List<int[]> known = killers.getOrDefault(depth, List.of());
    int i = isOlder ? 1 : 0;
    return i < known.size() ? known.get(i)[0] * 100 + known.get(i)[1] : -1;
  }

  int ofSlot(int slot, int what) {
    if (slot < 0 || slot >= slots) {
      throw new IndexOutOfBoundsException();
    }
    bad(what < 0 || what > 3);
    Entry e = table.get(slot);
    if (e == null) {
      return -1;
    }
    return new int[] {e.depth, e.number, e.kind, e.move[0] * 100 + e.move[1]}[what];
  }

  int known() {
    Entry e = entryFor(now);
    return e == null ? 0 : e.depth;
  }

  int teach(int move, int weight) {
    int[] it = moveOrThrow(move);
    bad(weight < 1 || weight > 99);
    Page page = new Page(now.key(), it[0], it[1], weight);
    for (int i = 0; i < book.size(); i++) {
      Page old = book.get(i);
      if (old.key == page.key && old.from == page.from && old.to == page.to) {
        book.set(i, page);
        return book.size();
      }
    }
    if (book.size() == 30) {
      throw new IllegalStateException();
    }
    book.add(page);
    return book.size();
  }

  int told() {
    int chosen = -1;
    int weight = 0;
    List<int[]> moves = now.moves();
    for (int i = 0; i < moves.size(); i++) {
      for (Page page : book) {
        if (page.key == now.key() && page.from == moves.get(i)[0] && page.to == moves.get(i)[1]
            && page.weight > weight) {
          weight = page.weight;
          chosen = i;
        }
      }
    }
    return chosen;
  }

  int go(int depth) {
    bad(depth < 1 || depth > 4);
    if (now.isLost()) {
      throw new IllegalStateException();
    }
    int move = told();
    if (move < 0) {
      search(depth);
      List<int[]> moves = now.moves();
      for (int i = 0; i < moves.size(); i++) {
        if (moves.get(i)[0] == best[0] && moves.get(i)[1] == best[1]) {
          move = i;
        }
      }
    }
    play(move);
    return move;
  }

  int playOut(int depth, int most) {
    bad(depth < 1 || depth > 3 || most < 1 || most > 10);
    int n = 0;
    while (n < most && !now.isLost()) {
      go(depth);
      n++;
    }
    return n;
  }

  double effort() {
    return cuts == 0 ? 0 : (double) nodes / cuts;
  }

  long digest() {
    List<Long> all = new ArrayList<>();
    all.add((long) now.columns);
    all.add((long) now.rows);
    for (int i = 0; i < now.fields.length(); i++) {
      all.add((long) now.there(i));
    }
    all.add((long) now.side);
    all.add((long) before.size());
    all.add(now.isLost() ? 1L : 0L);
    all.add(now.key());
    all.add((long) evaluation(now));
    all.add((long) now.moves().size());
    for (int[] move : now.moves()) {
      all.add((long) move[0]);
      all.add((long) move[1]);
    }
    for (int x : new int[] {ways(2), value(1), best[0], best[1], reached, nodes, hits, cuts}) {
      all.add((long) x);
    }
    for (int depth = 1; depth <= 4; depth++) {
      all.add((long) killer(depth, false));
      all.add((long) killer(depth, true));
    }
    all.add((long) slots);
    all.add((long) table.size());
    for (int slot = 0; slot < slots; slot++) {
      for (int what = 0; what < 4; what++) {
        all.add((long) ofSlot(slot, what));
      }
    }
    all.add((long) known());
    all.add((long) told());
    all.add((long) book.size());
    long d = 58036;
    for (long x : all) {
      d = d * 31 + x;
    }
    return d;
  }
}
