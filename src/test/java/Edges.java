import java.util.ArrayList;
import java.util.List;

/** The numbers beside those that are allowed. */
final class Edges {
    private Edges() {
    }

    /**
     * Numbers that are not from least to most: the two beside them, int's own least and greatest, and those that would
     * come to an allowed one if only their lower 8, 16 or 31 bits were looked at.
     */
    static int[] outside(int least, int most) {
        List<Integer> found = new ArrayList<>(List.of(least - 1, most + 1, Integer.MIN_VALUE, Integer.MAX_VALUE));
        for (int turn : new int[] {256, 65536, Integer.MIN_VALUE}) {
            for (int v : new int[] {least, most, least + turn, most + turn, least - turn, most - turn}) {
                if ((v < least || v > most) && !found.contains(v)) {
                    found.add(v);
                }
            }
        }
        return found.stream().mapToInt(Integer::intValue).toArray();
    }

    /** Numbers of which there is none such, if so many are numbered from 0 on. */
    static int[] notOf(int count) {
        return outside(0, count - 1);
    }
}
