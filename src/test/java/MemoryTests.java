import java.lang.management.ManagementFactory;

/** No call makes an object, so that all calls of a run fit into one room. */
public final class MemoryTests {
  private static final com.sun.management.ThreadMXBean THREADS =
      (com.sun.management.ThreadMXBean) ManagementFactory.getThreadMXBean();

  public static void main(String[] args) {
    work(new KindlingTree());
    // the machine itself makes something now and then: what the calls make is in every try
    long leastObject = Long.MAX_VALUE;
    long leastCalls = Long.MAX_VALUE;
    for (int i = 0; i < 20; i++) {
      long before = made();
      KindlingTree tree = new KindlingTree();
      long behindOne = made();
      work(tree);
      leastObject = Math.min(leastObject, behindOne - before);
      leastCalls = Math.min(leastCalls, made() - behindOne);
    }
    Check.yes("an object takes " + leastObject + " bytes, less than 20000", leastObject < 20000);
    Check.yes("its calls make " + leastCalls + " bytes, less than 1000", leastCalls < 1000);
    Check.end("MemoryTests");
  }

  private static long made() {
    return THREADS.getThreadAllocatedBytes(Thread.currentThread().getId());
  }

  /** Some 400 calls, the dearest ones among them. */
  private static void work(KindlingTree tree) {
    long sum = 0;
    for (int i = 0; i < 15; i++) {
      tree.setUp(3 + i % 3, 5, 1);
      tree.put(10, i % 3);
      tree.setSide(i % 2);
      tree.setQuiet(i % 4 != 0);
      tree.weigh(i, i, i % 10);
      tree.setSlots(4 * i);
      sum += tree.search(4) + tree.value(3) + tree.ways(3) + tree.valueOf(0, 3);
      sum += tree.teach(0, 1 + i) + tree.told() + tree.digest();
      tree.play(1);
      sum += tree.go(4) + tree.playOut(3, 10) + tree.back() + tree.empty();
      sum += tree.bestFrom() + tree.killer(1, true) + tree.known() + tree.key();
      sum += tree.evaluation() + tree.moves() + (tree.isLost() ? 1 : 0) + (long) tree.effort();
    }
    Check.yes("something was answered", sum != 0);
  }
}
