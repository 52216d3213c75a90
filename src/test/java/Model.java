import java.util.ArrayList;
import java.util.Arrays;
import java.util.HashMap;
import java.util.List;
import java.util.Map;

/** The document once more, with lists and maps and without a thought of cost. */
final class Model {
    private record Block(int number, int asker, boolean fresh) {
    }

    private static final class State {
        int space = 4;
        int speed = 1;
        int pace = 2;
        int arm = 0;
        int way = 0;
        int ticks = 0;
        List<Block> room = new ArrayList<>();
        List<Block> waits = new ArrayList<>();
        List<Integer> row = new ArrayList<>();
        List<List<Integer>> askedBy = new ArrayList<>();
        int[][] counts = new int[4][7];
        int[] shares = new int[4];
        int[] kinds = new int[4];
        int[] reaches = new int[4];
        int[][] spans = new int[4][];

        State() {
            for (int p = 0; p < 4; p++) {
                askedBy.add(new ArrayList<>());
            }
        }

        State copy() {
            State s = new State();
            s.space = space;
            s.speed = speed;
            s.pace = pace;
            s.arm = arm;
            s.way = way;
            s.ticks = ticks;
            s.room = new ArrayList<>(room);
            s.waits = new ArrayList<>(waits);
            s.row = new ArrayList<>(row);
            s.shares = shares.clone();
            s.kinds = kinds.clone();
            s.reaches = reaches.clone();
            s.spans = spans.clone();
            for (int p = 0; p < 4; p++) {
                s.counts[p] = counts[p].clone();
                s.askedBy.set(p, new ArrayList<>(askedBy.get(p)));
            }
            return s;
        }
    }

    private State now = new State();
    private final Map<Integer, State> shelves = new HashMap<>();

    int clear(int space, int speed, int pace) {
        if (space < 1 || space > 12 || speed < 1 || speed > 3 || pace < 1 || pace > 4) {
            return ReadAhead.OUTSIDE;
        }
        int asks = now.row.size();
        now = new State();
        now.space = space;
        now.speed = speed;
        now.pace = pace;
        return asks;
    }

    int share(int p, int n) {
        if (p < 0 || p > 3) {
            return ReadAhead.UNKNOWN;
        }
        if (n < 0 || n > 12) {
            return ReadAhead.OUTSIDE;
        }
        int others = 0;
        for (int q = 0; q < 4; q++) {
            others += q == p ? 0 : now.shares[q];
        }
        if (others + n > now.space) {
            return ReadAhead.NOT;
        }
        int was = now.shares[p];
        now.shares[p] = n;
        return was;
    }

    int kind(int p, int kind, int reach) {
        if (p < 0 || p > 3) {
            return ReadAhead.UNKNOWN;
        }
        if (kind < 0 || kind > 5 || reach < 0 || reach > 8) {
            return ReadAhead.OUTSIDE;
        }
        int was = now.kinds[p];
        now.kinds[p] = kind;
        now.reaches[p] = reach;
        now.spans[p] = null;
        return was;
    }

    int hint(int p, int a, int b) {
        if (p < 0 || p > 3) {
            return ReadAhead.UNKNOWN;
        }
        if (a < 0 || b > 63 || a > b) {
            return ReadAhead.OUTSIDE;
        }
        if (now.kinds[p] != 4) {
            return ReadAhead.NOT;
        }
        now.spans[p] = new int[] {a, b};
        return 1;
    }

    int ask(int p, int block) {
        if (p < 0 || p > 3) {
            return ReadAhead.UNKNOWN;
        }
        if (block < 0 || block > 63) {
            return ReadAhead.OUTSIDE;
        }
        now.counts[p][0]++;
        int stalls = 0;
        Block there = find(now.room, block);
        if (there != null) {
            now.counts[p][1]++;
            if (there.fresh()) {
                now.counts[there.asker()][5]++;
                if (now.kinds[there.asker()] == 5 && now.reaches[there.asker()] < 8) {
                    now.reaches[there.asker()]++;
                }
            }
            now.room.remove(there);
            now.room.add(new Block(block, there.asker(), false));
        } else {
            now.waits.removeIf(b -> b.number() == block);
            now.counts[p][2]++;
            stalls++;
            tick(new Block(block, p, false));
        }
        now.row.add(block);
        now.askedBy.get(p).add(block);
        for (int wish : wishes(p, block)) {
            boolean known = find(now.room, wish) != null || find(now.waits, wish) != null;
            if (wish >= 0 && wish <= 63 && !known && now.waits.size() < 16) {
                now.waits.add(new Block(wish, p, true));
            }
        }
        if (now.row.size() % now.pace == 0) {
            tick(null);
        }
        return stalls;
    }

    int idle(int n) {
        if (n < 0 || n > 64) {
            return ReadAhead.OUTSIDE;
        }
        int came = 0;
        for (int i = 0; i < n; i++) {
            came += tick(null);
        }
        return came;
    }

    private static Block find(List<Block> blocks, int number) {
        return blocks.stream().filter(b -> b.number() == number).findFirst().orElse(null);
    }

    private int tick(Block demanded) {
        now.ticks++;
        int came = 0;
        Block next = demanded;
        for (int i = 0; i < now.speed; i++) {
            if (next == null) {
                next = nearest();
                if (next == null) {
                    return came;
                }
                now.waits.remove(next);
                now.counts[next.asker()][3]++;
            }
            came += comes(next) ? 1 : 0;
            next = null;
        }
        return came;
    }

    private Block nearest() {
        for (int far = 0; far < 64; far++) {
            Block below = find(now.waits, now.arm - far);
            Block above = find(now.waits, now.arm + far);
            if (below != null || above != null) {
                return below != null ? below : above;
            }
        }
        return null;
    }

    private boolean comes(Block block) {
        now.way += Math.abs(now.arm - block.number());
        now.arm = block.number();
        if (now.room.size() == now.space) {
            List<Block> may = now.room.stream().filter(b -> mayGo(b, block.asker())).toList();
            List<Block> left = may.stream().filter(this::isLeft).toList();
            if (may.isEmpty()) {
                if (block.fresh()) {
                    waste(block);
                } else {
                    now.counts[block.asker()][6]++;
                }
                return false;
            }
            Block goes = left.isEmpty() ? may.get(0) : left.get(0);
            now.room.remove(goes);
            if (goes.fresh()) {
                waste(goes);
            }
        }
        now.room.add(block);
        return true;
    }

    private void waste(Block block) {
        now.counts[block.asker()][4]++;
        if (now.kinds[block.asker()] == 5) {
            now.reaches[block.asker()] /= 2;
        }
    }

    private boolean mayGo(Block block, int p) {
        long has = now.room.stream().filter(b -> b.asker() == block.asker()).count();
        return block.asker() == p || has > now.shares[block.asker()];
    }

    private boolean isLeft(Block block) {
        int[] span = now.spans[block.asker()];
        List<Integer> asked = now.askedBy.get(block.asker());
        if (span == null || asked.isEmpty() || block.number() < span[0] || block.number() > span[1]) {
            return false;
        }
        int latest = asked.get(asked.size() - 1);
        return latest < span[0] || latest > span[1] || latest > block.number();
    }

    private List<Integer> wishes(int p, int block) {
        List<Integer> wishes = new ArrayList<>();
        List<Integer> asked = now.askedBy.get(p);
        int size = asked.size();
        int reach = now.reaches[p];
        int[] span = now.spans[p];
        for (int i = 1; i <= reach; i++) {
            if (now.kinds[p] == 1 || now.kinds[p] == 5) {
                wishes.add(block + i);
            } else if (now.kinds[p] == 2 && size >= 3) {
                int step = block - asked.get(size - 2);
                if (step != 0 && step == asked.get(size - 2) - asked.get(size - 3)) {
                    wishes.add(block + i * step);
                }
            } else if (now.kinds[p] == 3) {
                int next = follows(p, i == 1 ? block : wishes.get(i - 2));
                if (next == ReadAhead.NONE) {
                    break;
                }
                wishes.add(next);
            } else if (now.kinds[p] == 4 && span != null && block >= span[0] && block + i <= span[1]) {
                wishes.add(block + i);
            }
        }
        return wishes;
    }

    private int follows(int p, int block) {
        List<Integer> asked = now.askedBy.get(p);
        for (int i = asked.size() - 2; i >= 0; i--) {
            if (asked.get(i) == block) {
                return asked.get(i + 1);
            }
        }
        return ReadAhead.NONE;
    }

    int keep(int s) {
        if (s != 0 && s != 1) {
            return ReadAhead.UNKNOWN;
        }
        shelves.put(s, now.copy());
        return 1;
    }

    int back(int s) {
        if (s != 0 && s != 1) {
            return ReadAhead.UNKNOWN;
        }
        if (!shelves.containsKey(s)) {
            return ReadAhead.NOT;
        }
        now = shelves.get(s).copy();
        return 1;
    }

    private int digest() {
        List<Integer> all = new ArrayList<>(List.of(now.space, now.speed, now.pace, now.arm, now.ticks));
        now.room.forEach(b -> all.addAll(List.of(b.number(), b.asker(), b.fresh() ? 1 : 0)));
        now.waits.forEach(b -> all.addAll(List.of(b.number(), b.asker())));
        for (int p = 0; p < 4; p++) {
            for (int count : now.counts[p]) {
                all.add(count);
            }
            all.add(now.kinds[p]);
            all.add(now.reaches[p]);
        }
        return all.stream().reduce(7, (d, n) -> 31 * d + n);
    }

    private int foresight(int n) {
        int from = Math.max(0, now.row.size() - n);
        int[] latest = now.row.subList(from, now.row.size()).stream().mapToInt(b -> b).toArray();
        if (Arrays.stream(latest).distinct().count() > 7) {
            return ReadAhead.NOT;
        }
        return new PlanSearch(latest, from + 1, now.space, now.speed, now.pace).least();
    }

    private int told(int p, int what) {
        if (what < 7) {
            return now.counts[p][what];
        }
        List<Block> of = what == 7 ? now.room : now.waits;
        return what == 8 ? now.shares[p] : (int) of.stream().filter(b -> b.asker() == p).count();
    }

    /** In the form of View; foresight is searched for only up to the number that is asked for. */
    String view(int foreseen) {
        StringBuilder text = new StringBuilder();
        text.append("digest ").append(digest()).append(" house");
        int[] house = {now.arm, now.ticks, now.space, now.speed, now.room.size(), now.waits.size(), now.way, now.pace};
        for (int n : house) {
            text.append(' ').append(n);
        }
        text.append(" room");
        for (Block b : now.room) {
            text.append(' ').append(b.number()).append('/').append(b.asker());
            text.append('/').append(b.fresh() ? 1 : 0).append('/').append(isLeft(b) ? 1 : 0);
        }
        text.append(" waiting");
        for (Block b : now.waits) {
            text.append(' ').append(b.number()).append('/').append(b.asker());
        }
        for (int p = -1; p < 4; p++) {
            text.append(" asker ").append(p);
            for (int what = 0; what < 10; what++) {
                int all = told(0, what) + told(1, what) + told(2, what) + told(3, what);
                text.append(' ').append(p == -1 ? all : told(p, what));
            }
            text.append(" reach ").append(p == -1 ? ReadAhead.UNKNOWN : now.reaches[p]);
        }
        for (int p = 0; p < 4; p++) {
            text.append(" follows ").append(p);
            for (int block = 0; block < 64; block++) {
                if (follows(p, block) != ReadAhead.NONE) {
                    text.append(' ').append(block).append('>').append(follows(p, block));
                }
            }
        }
        text.append(" foresight");
        for (int n = 0; n <= foreseen; n++) {
            text.append(' ').append(foresight(n));
        }
        return text.toString();
    }
}
