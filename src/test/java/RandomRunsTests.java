import java.util.Random;
import java.util.function.DoubleSupplier;

/** Random runs of calls, each answer compared with the one of PlainTree. */
public final class RandomRunsTests {
  private static final int RUNS = 600;
  // an object is used for at most 512 calls, and a turn makes some twenty
  private static final int CALLS = 490;
  private final Random random;
  private final KindlingTree tree = new KindlingTree();
  private final PlainTree plain = new PlainTree();
  private final int run;
  private int calls;

  private RandomRunsTests(int itsRun) {
    run = itsRun;
    random = new Random(itsRun);
  }

  public static void main(String[] args) {
    for (int run = 0; run < RUNS; run++) {
      new RandomRunsTests(run).go();
    }
    Check.end("RandomRunsTests");
  }

  /** A number that is mostly allowed, now and then just outside, and rarely far off. */
  private int about(int least, int most) {
    int kind = random.nextInt(40);
    if (kind == 0) {
      return least - 1;
    }
    if (kind == 1) {
      return most + 1;
    }
    if (kind == 2 && random.nextInt(5) == 0) {
      int[] far = {Integer.MIN_VALUE, Integer.MAX_VALUE, 1 << 30, -(1 << 30), 1 << 31, 1000};
      return far[random.nextInt(far.length)];
    }
    return least + random.nextInt(Math.max(1, most - least + 1));
  }

  private void compare(String call, DoubleSupplier got, DoubleSupplier due) {
    calls++;
    Check.same("run " + run + ": " + call, answer(got), answer(due));
  }

  private static String answer(DoubleSupplier call) {
    double[] told = new double[1];
    String thrown = Check.thrownBy(() -> told[0] = call.getAsDouble());
    return thrown.isEmpty() ? String.valueOf(told[0]) : thrown;
  }

  private static double number(boolean is) {
    return is ? 1 : 0;
  }

  private void go() {
    for (int i = 0; calls < CALLS; i++) {
      int kind = random.nextInt(100);
      if (kind < 25) {
        changeBoard();
      } else if (kind < 32) {
        changeSettings();
      } else if (kind < 50) {
        playAndSearch();
      } else if (kind < 75) {
        askBoard();
      } else {
        askSearch();
      }
      if (i % 5 == 0) {
        calls++;
        Check.same("run " + run + ": digest behind call " + i, tree.digest(), plain.digest());
      }
    }
    Check.same("run " + run + ": digest", tree.digest(), plain.digest());
  }

  private int aMove() {
    calls++;
    return about(0, tree.moves() - 1);
  }

  private int aField() {
    calls += 2;
    return about(0, tree.columns() * tree.rows() - 1);
  }

  private void changeBoard() {
    int kind = random.nextInt(20);
    if (kind == 0) {
      int columns = about(3, 5);
      int rows = about(3, 5);
      int full = about(1, 2);
      compare("setUp(" + columns + ", " + rows + ", " + full + ")",
          () -> tree.setUp(columns, rows, full), () -> plain.setUp(columns, rows, full));
    } else if (kind < 6) {
      int field = aField();
      int what = about(0, 2);
      compare("put(" + field + ", " + what + ")",
          () -> tree.put(field, what), () -> plain.put(field, what));
    } else if (kind == 6) {
      int side = about(0, 1);
      compare("setSide(" + side + ")", () -> tree.setSide(side), () -> plain.setSide(side));
    } else if (kind < 15) {
      int move = aMove();
      compare("play(" + move + ")", () -> tree.play(move), () -> plain.play(move));
    } else {
      compare("back()", tree::back, plain::back);
    }
  }

  private void changeSettings() {
    int kind = random.nextInt(4);
    if (kind == 0) {
      int m = about(0, 50);
      int a = about(0, 20);
      int f = about(0, 10);
      compare("weigh(" + m + ", " + a + ", " + f + ")",
          () -> tree.weigh(m, a, f), () -> plain.weigh(m, a, f));
    } else if (kind == 1) {
      boolean isOn = random.nextBoolean();
      compare("setQuiet(" + isOn + ")",
          () -> number(tree.setQuiet(isOn)), () -> number(plain.setQuiet(isOn)));
    } else if (kind == 2) {
      int slots = about(0, random.nextBoolean() ? 64 : 3);
      compare("setSlots(" + slots + ")", () -> tree.setSlots(slots), () -> plain.setSlots(slots));
    } else {
      compare("empty()", tree::empty, plain::empty);
    }
  }

  private void playAndSearch() {
    int kind = random.nextInt(10);
    int depth = about(1, 4);
    if (kind < 5) {
      compare("search(" + depth + ")", () -> tree.search(depth), () -> plain.search(depth));
    } else if (kind < 7) {
      int move = aMove();
      int weight = about(1, 99);
      compare("teach(" + move + ", " + weight + ")",
          () -> tree.teach(move, weight), () -> plain.teach(move, weight));
    } else if (kind < 9) {
      compare("go(" + depth + ")", () -> tree.go(depth), () -> plain.go(depth));
    } else {
      int most = about(1, 10);
      compare("playOut(" + depth + ", " + most + ")",
          () -> tree.playOut(depth, most), () -> plain.playOut(depth, most));
    }
  }

  private void askBoard() {
    int field = aField();
    int move = aMove();
    int depth = about(0, 3);
    compare("columns()", tree::columns, () -> plain.now.columns());
    compare("rows()", tree::rows, () -> plain.now.rows());
    compare("at(" + field + ")", () -> tree.at(field), () -> plain.at(field));
    compare("side()", tree::side, () -> plain.now.side());
    compare("played()", tree::played, () -> plain.before.size());
    compare("moves()", tree::moves, () -> plain.now.moves().size());
    compare("from(" + move + ")", () -> tree.from(move), () -> plain.from(move));
    compare("to(" + move + ")", () -> tree.to(move), () -> plain.to(move));
    compare("takes(" + move + ")",
        () -> number(tree.takes(move)), () -> number(plain.takes(move)));
    compare("isLost()", () -> number(tree.isLost()), () -> number(plain.now.isLost()));
    compare("key()", tree::key, () -> plain.now.key());
    compare("evaluation()", tree::evaluation, () -> plain.evaluation(plain.now));
    compare("ways(" + depth + ")", () -> tree.ways(depth), () -> plain.ways(depth));
    compare("value(" + depth + ")", () -> tree.value(depth), () -> plain.value(depth));
    compare("valueOf(" + move + ", " + depth + ")",
        () -> tree.valueOf(move, depth), () -> plain.valueOf(move, depth));
  }

  private void askSearch() {
    int depth = about(1, 4);
    calls++;
    int slot = about(0, tree.slots() - 1);
    int what = about(0, 3);
    boolean isOlder = random.nextBoolean();
    compare("bestFrom()", tree::bestFrom, () -> plain.best[0]);
    compare("bestTo()", tree::bestTo, () -> plain.best[1]);
    compare("reached()", tree::reached, () -> plain.reached);
    compare("nodes()", tree::nodes, () -> plain.nodes);
    compare("hits()", tree::hits, () -> plain.hits);
    compare("cuts()", tree::cuts, () -> plain.cuts);
    compare("killer(" + depth + ", " + isOlder + ")",
        () -> tree.killer(depth, isOlder), () -> plain.killer(depth, isOlder));
    compare("slots()", tree::slots, () -> plain.slots);
    compare("entries()", tree::entries, plain.table::size);
    compare("ofSlot(" + slot + ", " + what + ")",
        () -> tree.ofSlot(slot, what), () -> plain.ofSlot(slot, what));
    compare("known()", tree::known, plain::known);
    compare("told()", tree::told, plain::told);
    compare("pages()", tree::pages, plain.book::size);
    compare("effort()", tree::effort, plain::effort);
  }
}
