import java.util.Arrays;
import java.util.stream.IntStream;

/** Numbers that are not taken, near a bound and as far out as an int goes. */
final class Bounds {
    static final int MAX = Integer.MAX_VALUE;
    static final int MIN = Integer.MIN_VALUE;

    private Bounds() {
    }

    /** Numbers below least and beyond most; some would pass if a bit too few of them were looked at. */
    static int[] outside(int least, int most) {
        IntStream near = IntStream.of(least - 1, least - 2, most + 1, most + 2);
        IntStream far = IntStream.of(MIN, MIN + 1, MAX - 1, MAX, -1, -999, -1000);
        IntStream wrapped = Arrays.stream(new int[] {5, 6, 8, 10, 16, 17, 20, 24, 30, 31})
                .flatMap(bit -> IntStream.of(least + (1 << bit), least - (1 << bit), most + (1 << bit)));
        return IntStream.concat(near, IntStream.concat(far, wrapped))
                .filter(number -> number < least || number > most).distinct().toArray();
    }
}
