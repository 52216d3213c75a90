import java.util.Arrays;
import java.util.HashMap;
import java.util.HashSet;
import java.util.Map;
import java.util.Set;

/**
 * Foresight by the document's words, room by room and serve by serve, from the row's end
 * backwards: slow, and with nothing of the way in which the class does it.
 */
final class PlanSearch {
    // The blocks of the row, numbered from 0 on: a room is then a set in an int.
    private final int[] row;
    private final int unlike;
    private final int firstNumber;
    private final int space;
    private final int speed;
    private final int pace;
    private final Map<Integer, Integer> known = new HashMap<>();
    private final Map<Integer, Set<Integer>> servedBefore = new HashMap<>();

    /** firstNumber: which ask since clear() the row's first one is, from 1 on. */
    PlanSearch(int[] blocks, int firstNumber, int space, int speed, int pace) {
        int[] unlike = Arrays.stream(blocks).distinct().toArray();
        this.row = new int[blocks.length];
        for (int i = 0; i < blocks.length; i++) {
            while (unlike[row[i]] != blocks[i]) {
                row[i]++;
            }
        }
        this.unlike = unlike.length;
        this.firstNumber = firstNumber;
        this.space = space;
        this.speed = speed;
        this.pace = pace;
    }

    int least() {
        return leastFrom(0, 0);
    }

    private int leastFrom(int i, int room) {
        if (i == row.length) {
            return 0;
        }
        int key = room * 32 + i;
        Integer before = known.get(key);
        if (before != null) {
            return before;
        }
        int least = has(room, row[i]) ? leastBehind(i, room) : leastStalled(i, room);
        known.put(key, least);
        return least;
    }

    /** Any number of ticks may pass; those rooms that came up with fewer ticks are not new. */
    private int leastStalled(int i, int room) {
        int least = Integer.MAX_VALUE;
        Set<Integer> seen = new HashSet<>();
        Set<Integer> stalled = new HashSet<>();
        stalled.add(room);
        for (int ticks = 1; !stalled.isEmpty(); ticks++) {
            Set<Integer> next = new HashSet<>();
            for (int from : stalled) {
                for (int to : served(from, speed - 1)) {
                    least = Math.min(least, ticks + leastBehind(i, to));
                }
                for (int to : served(from, speed)) {
                    if (has(to, row[i])) {
                        least = Math.min(least, ticks + leastBehind(i, to));
                    } else if (seen.add(to)) {
                        next.add(to);
                    }
                }
            }
            stalled = next;
        }
        return least;
    }

    private int leastBehind(int i, int room) {
        if ((firstNumber + i) % pace != 0) {
            return leastFrom(i + 1, room);
        }
        int least = Integer.MAX_VALUE;
        for (int to : served(room, speed)) {
            least = Math.min(least, leastFrom(i + 1, to));
        }
        return least;
    }

    private Set<Integer> served(int room, int times) {
        return servedBefore.computeIfAbsent(room * 4 + times, key -> servedAnew(room, times));
    }

    private Set<Integer> servedAnew(int room, int times) {
        Set<Integer> all = new HashSet<>();
        all.add(room);
        for (int t = 0; t < times; t++) {
            Set<Integer> more = new HashSet<>(all);
            for (int from : all) {
                addServed(from, more);
            }
            all = more;
        }
        return all;
    }

    private void addServed(int from, Set<Integer> more) {
        for (int block = 0; block < unlike; block++) {
            if (has(from, block)) {
                continue;
            }
            if (Integer.bitCount(from) < space) {
                more.add(from | 1 << block);
                continue;
            }
            for (int gone = 0; gone < unlike; gone++) {
                if (has(from, gone)) {
                    more.add(from & ~(1 << gone) | 1 << block);
                }
            }
        }
    }

    private static boolean has(int room, int block) {
        return (room >>> block & 1) == 1;
    }
}
