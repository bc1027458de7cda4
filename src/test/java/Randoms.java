import java.util.Random;

/** Positions by chance, with many pawns that can meet. */
final class Randoms {
  private Randoms() {}

  static String fields(Random random, int columns, int rows) {
    int count = columns * rows;
    char[] fields = "0".repeat(count).toCharArray();
    int[] left = {6, 6};
    for (int i = 0; i < 60; i++) {
      int field = random.nextInt(count);
      int side = random.nextInt(2);
      int row = field / columns;
      boolean isThrough = row == (side == 0 ? rows - 1 : 0);
      boolean isLeft = left[side] > 0 && fields[field] == '0';
      if (isLeft && (!isThrough || random.nextInt(300) == 0)) {
        fields[field] = (char) ('1' + side);
        left[side]--;
      }
    }
    return new String(fields);
  }
}
