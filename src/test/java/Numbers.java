import java.util.Arrays;
import java.util.stream.IntStream;

/** Numbers at the edges of a range. */
final class Numbers {
  /** Three, ten and thirty times these are small again, or below 0, when they wrap around. */
  private static final int[] FAR = {
    Integer.MIN_VALUE, Integer.MIN_VALUE + 1, -1073741824, -1431655765, 1 << 30, 143165577, 858993460, 1431655765,
    1431655766, Integer.MAX_VALUE - 1, Integer.MAX_VALUE,
  };

  private Numbers() {
  }

  static int[] outside(int least, int greatest) {
    int[] near = {least - 1, greatest + 1};
    return IntStream.concat(Arrays.stream(near), Arrays.stream(FAR)).toArray();
  }
}
