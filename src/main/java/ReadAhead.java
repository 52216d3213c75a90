import java.util.Arrays;

/**
 * A bench of fetching ahead: askers, a disk with an arm, a room of blocks, and five ways to
 * wish for blocks before they are asked for. The promises stand in the project's DOC.md.
 *
 * <p>All rows are made in constructors and used again: no call makes an object.
 */
public final class ReadAhead {
    public static final int NONE = -1, UNKNOWN = -101, OUTSIDE = -102, NOT = -103;

    private static final int BLOCKS = 64, ASKERS = 4, SHELVES = 2;
    private static final int MOST_SPACE = 12, MOST_SPEED = 3, MOST_PACE = 4;
    private static final int MOST_WAITING = 16, MOST_REACH = 8, MOST_IDLE = 64;
    private static final int FIRST_SPACE = 4, FIRST_SPEED = 1, FIRST_PACE = 2;

    private static final int PLAIN = 0, AHEAD = 1, STRIDED = 2, FOLLOWER = 3, HINTED = 4, CAUTIOUS = 5;

    // What told() tells: the first COUNTS of them are counted, the others looked up.
    private static final int ASKS = 0, HITS = 1, STALLS = 2, SERVED_AHEAD = 3, WASTED = 4, SAVED = 5;
    private static final int READ_THROUGH = 6, COUNTS = 7, IN_ROOM = 7, SHARE = 8, WAITING = 9;

    // foresight() looks no further back, so no more of the row is held.
    private static final int MOST_FORESEEN = 24;

    private final House now = new House();
    private final House[] shelves = new House[SHELVES];
    private final boolean[] filled = new boolean[SHELVES];
    private final Foresight best = new Foresight();

    public ReadAhead() {
        for (int s = 0; s < SHELVES; s++) {
            shelves[s] = new House();
        }
    }

    // ---- the house

    public int clear(int space, int speed, int pace) {
        if (!within(space, 1, MOST_SPACE) || !within(speed, 1, MOST_SPEED) || !within(pace, 1, MOST_PACE)) {
            return OUTSIDE;
        }
        int asks = now.asks;
        now.begin(space, speed, pace);
        return asks;
    }

    public int share(int p, int n) {
        if (!isAsker(p)) {
            return UNKNOWN;
        }
        if (!within(n, 0, MOST_SPACE)) {
            return OUTSIDE;
        }
        int before = now.askers[p].share;
        if (toldOfAll(SHARE) - before + n > now.space) {
            return NOT;
        }
        now.askers[p].share = n;
        return before;
    }

    public int kind(int p, int kind, int reach) {
        if (!isAsker(p)) {
            return UNKNOWN;
        }
        if (!within(kind, PLAIN, CAUTIOUS) || !within(reach, 0, MOST_REACH)) {
            return OUTSIDE;
        }
        int before = now.askers[p].kind;
        now.askers[p].become(kind, reach);
        return before;
    }

    public int hint(int p, int a, int b) {
        if (!isAsker(p)) {
            return UNKNOWN;
        }
        if (!isBlock(a) || !isBlock(b) || a > b) {
            return OUTSIDE;
        }
        Asker asker = now.askers[p];
        if (asker.kind != HINTED) {
            return NOT;
        }
        asker.from = a;
        asker.to = b;
        return 1;
    }

    public int ask(int p, int block) {
        if (!isAsker(p)) {
            return UNKNOWN;
        }
        if (!isBlock(block)) {
            return OUTSIDE;
        }
        return now.answer(p, block);
    }

    public int idle(int n) {
        if (!within(n, 0, MOST_IDLE)) {
            return OUTSIDE;
        }
        int came = 0;
        for (int i = 0; i < n; i++) {
            came += now.tick(NONE, NONE);
        }
        return came;
    }

    // ---- what is told

    public int told(int p, int what) {
        if (p != NONE && !isAsker(p)) {
            return UNKNOWN;
        }
        if (!within(what, ASKS, WAITING)) {
            return OUTSIDE;
        }
        return p == NONE ? toldOfAll(what) : toldOfOne(p, what);
    }

    public int reach(int p) {
        return isAsker(p) ? now.askers[p].reach : UNKNOWN;
    }

    public int room(int i, int what) {
        if (!within(what, 0, 3)) {
            return OUTSIDE;
        }
        Held held = now.room;
        if (!within(i, 0, held.count - 1)) {
            return NONE;
        }
        switch (what) {
            case 0:
                return held.block[i];
            case 1:
                return held.asker[i];
            case 2:
                return held.fresh[i];
            default:
                return now.askers[held.asker[i]].hasLeft(held.block[i]) ? 1 : 0;
        }
    }

    public int waiting(int i, int what) {
        if (!within(what, 0, 1)) {
            return OUTSIDE;
        }
        Held held = now.line;
        if (!within(i, 0, held.count - 1)) {
            return NONE;
        }
        return what == 0 ? held.block[i] : held.asker[i];
    }

    public int follows(int p, int block) {
        if (!isAsker(p)) {
            return UNKNOWN;
        }
        return isBlock(block) ? now.askers[p].behind[block] : OUTSIDE;
    }

    public int house(int what) {
        switch (what) {
            case 0:
                return now.arm;
            case 1:
                return now.ticks;
            case 2:
                return now.space;
            case 3:
                return now.speed;
            case 4:
                return now.room.count;
            case 5:
                return now.line.count;
            case 6:
                return now.way;
            case 7:
                return now.pace;
            default:
                return OUTSIDE;
        }
    }

    public int foresight(int n) {
        if (!within(n, 0, MOST_FORESEEN)) {
            return OUTSIDE;
        }
        return best.leastStalls(now, Math.min(n, now.asks));
    }

    // ---- shelves

    public int keep(int s) {
        if (!isShelf(s)) {
            return UNKNOWN;
        }
        shelves[s].copyFrom(now);
        filled[s] = true;
        return 1;
    }

    public int back(int s) {
        if (!isShelf(s)) {
            return UNKNOWN;
        }
        if (!filled[s]) {
            return NOT;
        }
        now.copyFrom(shelves[s]);
        return 1;
    }

    public int digest() {
        int d = 7;
        d = mixed(d, now.space);
        d = mixed(d, now.speed);
        d = mixed(d, now.pace);
        d = mixed(d, now.arm);
        d = mixed(d, now.ticks);
        d = mixedHeld(d, now.room, true);
        d = mixedHeld(d, now.line, false);
        for (int p = 0; p < ASKERS; p++) {
            d = mixedAsker(d, now.askers[p]);
        }
        return d;
    }

    private static int mixed(int d, int x) {
        return 31 * d + x;
    }

    private static int mixedHeld(int d, Held held, boolean withFresh) {
        int sum = d;
        for (int i = 0; i < held.count; i++) {
            sum = mixed(sum, held.block[i]);
            sum = mixed(sum, held.asker[i]);
            if (withFresh) {
                sum = mixed(sum, held.fresh[i]);
            }
        }
        return sum;
    }

    private static int mixedAsker(int d, Asker asker) {
        int sum = d;
        for (int what = 0; what < COUNTS; what++) {
            sum = mixed(sum, asker.counts[what]);
        }
        return mixed(mixed(sum, asker.kind), asker.reach);
    }

    private int toldOfAll(int what) {
        int sum = 0;
        for (int p = 0; p < ASKERS; p++) {
            sum += toldOfOne(p, what);
        }
        return sum;
    }

    private int toldOfOne(int p, int what) {
        switch (what) {
            case IN_ROOM:
                return now.room.heldFor[p];
            case SHARE:
                return now.askers[p].share;
            case WAITING:
                return now.line.heldFor[p];
            default:
                return now.askers[p].counts[what];
        }
    }

    private static boolean within(int n, int least, int most) {
        return least <= n && n <= most;
    }

    private static boolean isAsker(int p) {
        return within(p, 0, ASKERS - 1);
    }

    private static boolean isBlock(int block) {
        return within(block, 0, BLOCKS - 1);
    }

    private static boolean isShelf(int s) {
        return within(s, 0, SHELVES - 1);
    }

    /** Blocks, each for an asker, in an order: the room (the oldest first), or those that wait. */
    private static final class Held {
        final int[] block;
        final int[] asker;
        final int[] fresh;
        final int[] heldFor = new int[ASKERS];
        int count = 0;

        Held(int most) {
            block = new int[most];
            asker = new int[most];
            fresh = new int[most];
        }

        void empty() {
            count = 0;
            Arrays.fill(heldFor, 0);
        }

        void copyFrom(Held other) {
            count = other.count;
            System.arraycopy(other.block, 0, block, 0, count);
            System.arraycopy(other.asker, 0, asker, 0, count);
            System.arraycopy(other.fresh, 0, fresh, 0, count);
            System.arraycopy(other.heldFor, 0, heldFor, 0, ASKERS);
        }

        boolean hasPlace() {
            return count < block.length;
        }

        int find(int wanted) {
            for (int i = 0; i < count; i++) {
                if (block[i] == wanted) {
                    return i;
                }
            }
            return NONE;
        }

        /** To be called only where hasPlace(). */
        void add(int newBlock, int newAsker, int newFresh) {
            block[count] = newBlock;
            asker[count] = newAsker;
            fresh[count] = newFresh;
            count++;
            heldFor[newAsker]++;
        }

        void remove(int i) {
            heldFor[asker[i]]--;
            count--;
            for (int j = i; j < count; j++) {
                block[j] = block[j + 1];
                asker[j] = asker[j + 1];
                fresh[j] = fresh[j + 1];
            }
        }

        /** The place of the one nearest to the arm, of two the lesser; NONE if there is none. */
        int nearest(int arm) {
            int found = NONE;
            int least = BLOCKS;
            for (int i = 0; i < count; i++) {
                int far = Math.abs(block[i] - arm);
                if (far < least || far == least && found != NONE && block[i] < block[found]) {
                    found = i;
                    least = far;
                }
            }
            return found;
        }
    }

    /** What one asker is, and all that is known of its asks. */
    private static final class Asker {
        final int[] counts = new int[COUNTS];
        final int[] behind = new int[BLOCKS];
        int kind;
        // Of a cautious asker this is the reach of its own; no call tells the one it began with.
        int reach;
        int share;
        int from;
        int to;
        int last;
        int step;
        int stepBefore;

        void begin() {
            Arrays.fill(counts, 0);
            Arrays.fill(behind, NONE);
            become(PLAIN, 0);
            share = 0;
            last = NONE;
            step = 0;
            stepBefore = 0;
        }

        void copyFrom(Asker other) {
            System.arraycopy(other.counts, 0, counts, 0, COUNTS);
            System.arraycopy(other.behind, 0, behind, 0, BLOCKS);
            kind = other.kind;
            reach = other.reach;
            share = other.share;
            from = other.from;
            to = other.to;
            last = other.last;
            step = other.step;
            stepBefore = other.stepBefore;
        }

        void become(int newKind, int newReach) {
            kind = newKind;
            reach = newReach;
            from = NONE;
            to = NONE;
        }

        /** Only a hinted asker ever has a span, so the kind needs no second look. */
        boolean spans(int block) {
            return from != NONE && from <= block && block <= to;
        }

        boolean hasLeft(int block) {
            return last != NONE && spans(block) && (!spans(last) || last > block);
        }

        void countWasted() {
            counts[WASTED]++;
            if (kind == CAUTIOUS) {
                reach = reach / 2;
            }
        }

        void countSaved() {
            counts[SAVED]++;
            if (kind == CAUTIOUS) {
                reach = Math.min(reach + 1, MOST_REACH);
            }
        }

        void learn(int block) {
            if (last != NONE) {
                behind[last] = block;
                stepBefore = step;
                step = block - last;
            }
            last = block;
        }

        /** A step of 0 stands for none as well: neither is ever wished by. */
        boolean isSteady() {
            return step != 0 && step == stepBefore;
        }
    }

    /** All that keep() keeps. */
    private static final class House {
        final Held room = new Held(MOST_SPACE);
        final Held line = new Held(MOST_WAITING);
        final Asker[] askers = new Asker[ASKERS];
        final int[] row = new int[MOST_FORESEEN];
        int space;
        int speed;
        int pace;
        int arm;
        int way;
        int ticks;
        int asks;

        House() {
            for (int p = 0; p < ASKERS; p++) {
                askers[p] = new Asker();
            }
            begin(FIRST_SPACE, FIRST_SPEED, FIRST_PACE);
        }

        void begin(int newSpace, int newSpeed, int newPace) {
            room.empty();
            line.empty();
            for (int p = 0; p < ASKERS; p++) {
                askers[p].begin();
            }
            space = newSpace;
            speed = newSpeed;
            pace = newPace;
            arm = 0;
            way = 0;
            ticks = 0;
            asks = 0;
        }

        void copyFrom(House other) {
            room.copyFrom(other.room);
            line.copyFrom(other.line);
            for (int p = 0; p < ASKERS; p++) {
                askers[p].copyFrom(other.askers[p]);
            }
            System.arraycopy(other.row, 0, row, 0, MOST_FORESEEN);
            space = other.space;
            speed = other.speed;
            pace = other.pace;
            arm = other.arm;
            way = other.way;
            ticks = other.ticks;
            asks = other.asks;
        }

        /** Returns the stalls. */
        int answer(int p, int block) {
            asks++;
            row[placeInRow(asks)] = block;
            askers[p].counts[ASKS]++;
            int at = room.find(block);
            if (at == NONE) {
                demand(p, block);
                // One tick is always enough: the demanded block is the first that it serves.
                tick(block, p);
            } else {
                hit(p, at);
            }
            askers[p].learn(block);
            wish(p, block);
            if (asks % pace == 0) {
                tick(NONE, NONE);
            }
            return at == NONE ? 1 : 0;
        }

        private void hit(int p, int at) {
            int block = room.block[at];
            int owner = room.asker[at];
            askers[p].counts[HITS]++;
            if (room.fresh[at] == 1) {
                askers[owner].countSaved();
            }
            room.remove(at);
            room.add(block, owner, 0);
        }

        private void demand(int p, int block) {
            int at = line.find(block);
            if (at != NONE) {
                line.remove(at);
            }
            askers[p].counts[STALLS]++;
        }

        /** Serves the demanded block first, if it is not NONE; returns how many came. */
        int tick(int demanded, int p) {
            ticks++;
            int came = 0;
            int served = 0;
            if (demanded != NONE) {
                came += serve(demanded, p, 0);
                served++;
            }
            for (; served < speed; served++) {
                int at = line.nearest(arm);
                if (at == NONE) {
                    break;
                }
                int block = line.block[at];
                int asker = line.asker[at];
                line.remove(at);
                askers[asker].counts[SERVED_AHEAD]++;
                came += serve(block, asker, 1);
            }
            return came;
        }

        /** Returns 1 if the block came to the room, else 0. */
        private int serve(int block, int p, int fresh) {
            way += Math.abs(block - arm);
            arm = block;
            if (room.count >= space) {
                int at = leaver(p);
                if (at == NONE) {
                    turnAway(p, fresh);
                    return 0;
                }
                letGo(at);
            }
            room.add(block, p, fresh);
            return 1;
        }

        /** The place of the one that goes for a block of this asker; NONE if none may go. */
        private int leaver(int p) {
            int oldest = NONE;
            for (int i = 0; i < room.count; i++) {
                int owner = room.asker[i];
                if (owner == p || room.heldFor[owner] > askers[owner].share) {
                    if (askers[owner].hasLeft(room.block[i])) {
                        return i;
                    }
                    if (oldest == NONE) {
                        oldest = i;
                    }
                }
            }
            return oldest;
        }

        private void letGo(int at) {
            if (room.fresh[at] == 1) {
                askers[room.asker[at]].countWasted();
            }
            room.remove(at);
        }

        private void turnAway(int p, int fresh) {
            if (fresh == 1) {
                askers[p].countWasted();
            } else {
                askers[p].counts[READ_THROUGH]++;
            }
        }

        private void wish(int p, int block) {
            Asker asker = askers[p];
            switch (asker.kind) {
                case AHEAD:
                case CAUTIOUS:
                    wishBySteps(p, block, 1, asker.reach);
                    break;
                case STRIDED:
                    if (asker.isSteady()) {
                        wishBySteps(p, block, asker.step, asker.reach);
                    }
                    break;
                case FOLLOWER:
                    wishWhatFollowed(p, block);
                    break;
                case HINTED:
                    if (asker.spans(block)) {
                        wishBySteps(p, block, 1, Math.min(asker.reach, asker.to - block));
                    }
                    break;
                default:
                    break;
            }
        }

        private void wishBySteps(int p, int block, int step, int times) {
            for (int i = 1; i <= times; i++) {
                wishOne(p, block + i * step);
            }
        }

        private void wishWhatFollowed(int p, int block) {
            Asker asker = askers[p];
            int at = asker.behind[block];
            for (int i = 0; i < asker.reach && at != NONE; i++) {
                wishOne(p, at);
                at = asker.behind[at];
            }
        }

        private void wishOne(int p, int block) {
            if (isBlock(block) && line.hasPlace() && room.find(block) == NONE && line.find(block) == NONE) {
                line.add(block, p, 1);
            }
        }

        /** The block of the ask with this number (from 1 on); one of the latest that are held. */
        int asked(int number) {
            return row[placeInRow(number)];
        }

        /** The later asks take the places of those that foresight() can't reach any more. */
        private static int placeInRow(int number) {
            return Math.floorMod(number, MOST_FORESEEN);
        }
    }

    /**
     * The least stalls of all plans, by looking at all of them at once. A room is a set of the
     * (at most seven) unlike blocks of the row, so it is a number from 0 to 127, and a set of
     * rooms is 128 bits: low has the rooms without the seventh block, high those with it. What a
     * serve makes of all rooms of a set is then a few shifts, where a step for each room and
     * each block would be thousands.
     */
    private static final class Foresight {
        private static final int UNLIKE = 7, SEVENTH = 6;

        // HAS[k]: the rooms (of the first six blocks) that have block k.
        private static final long[] HAS = {
            0xAAAAAAAAAAAAAAAAL, 0xCCCCCCCCCCCCCCCCL, 0xF0F0F0F0F0F0F0F0L,
            0xFF00FF00FF00FF00L, 0xFFFF0000FFFF0000L, 0xFFFFFFFF00000000L
        };

        // SIZED[k]: the rooms (of the first six blocks) that have k blocks.
        private static final long[] SIZED = {
            0x0000000000000001L, 0x0000000100010116L, 0x0001011601161668L, 0x0116166816686880L,
            0x1668688068808000L, 0x6880800080000000L, 0x8000000000000000L
        };

        private final int[] unlike = new int[UNLIKE];
        private final int[] wanted = new int[MOST_FORESEEN];

        // By stalls: the rooms that some plan can have with so many, and none with fewer.
        private final long[] lows = new long[MOST_FORESEEN + 1];
        private final long[] highs = new long[MOST_FORESEEN + 1];

        // The rooms that the serves at hand go out from and come to.
        private long low;
        private long high;

        private long fullLow;
        private long fullHigh;
        private int speed;

        /** Of the latest n asks, which are not more than there are. */
        int leastStalls(House house, int n) {
            if (!number(house, n)) {
                return NOT;
            }
            speed = house.speed;
            fullLow = sized(house.space);
            fullHigh = sized(house.space - 1);
            Arrays.fill(lows, 0L);
            Arrays.fill(highs, 0L);
            lows[0] = 1L;
            for (int i = 0; i < n; i++) {
                passAsk(wanted[i], n);
                if ((house.asks - n + i + 1) % house.pace == 0) {
                    passTick(n);
                }
                dropDearer(n);
            }
            return cheapest(n);
        }

        /** Numbers the row's blocks from 0 on; false if they are too many unlike ones. */
        private boolean number(House house, int n) {
            int count = 0;
            for (int i = 0; i < n; i++) {
                int block = house.asked(house.asks - n + i + 1);
                int k = 0;
                while (k < count && unlike[k] != block) {
                    k++;
                }
                if (k >= UNLIKE) {
                    return false;
                }
                if (k == count) {
                    unlike[k] = block;
                    count++;
                }
                wanted[i] = k;
            }
            return true;
        }

        private static long sized(int blocks) {
            return within(blocks, 0, SEVENTH) ? SIZED[blocks] : 0L;
        }

        /** No ask needs more than one stall, so plans with more than n are not looked at. */
        private void passAsk(int k, int n) {
            long hasLow = k < SEVENTH ? HAS[k] : 0L;
            long hasHigh = k < SEVENTH ? HAS[k] : -1L;
            long stalledLow = 0L;
            long stalledHigh = 0L;
            long doneLow = 0L;
            long doneHigh = 0L;
            long triedLow = 0L;
            long triedHigh = 0L;
            for (int stalls = 0; stalls <= n; stalls++) {
                long fromLow = lows[stalls] | stalledLow;
                long fromHigh = highs[stalls] | stalledHigh;
                lows[stalls] = fromLow & hasLow | doneLow;
                highs[stalls] = fromHigh & hasHigh | doneHigh;
                low = fromLow & ~hasLow & ~triedLow;
                high = fromHigh & ~hasHigh & ~triedHigh;
                triedLow |= low;
                triedHigh |= high;
                // Read through: one serve less is left for the room.
                serveUpTo(speed - 1);
                doneLow = low;
                doneHigh = high;
                serveUpTo(1);
                doneLow |= low & hasLow;
                doneHigh |= high & hasHigh;
                stalledLow = low & ~hasLow;
                stalledHigh = high & ~hasHigh;
            }
        }

        private void passTick(int n) {
            for (int stalls = 0; stalls <= n; stalls++) {
                low = lows[stalls];
                high = highs[stalls];
                serveUpTo(speed);
                lows[stalls] = low;
                highs[stalls] = high;
            }
        }

        private void dropDearer(int n) {
            long seenLow = 0L;
            long seenHigh = 0L;
            for (int stalls = 0; stalls <= n; stalls++) {
                lows[stalls] &= ~seenLow;
                highs[stalls] &= ~seenHigh;
                seenLow |= lows[stalls];
                seenHigh |= highs[stalls];
            }
        }

        private int cheapest(int n) {
            int stalls = 0;
            while (stalls < n && (lows[stalls] | highs[stalls]) == 0L) {
                stalls++;
            }
            return stalls;
        }

        private void serveUpTo(int times) {
            for (int i = 0; i < times && (low | high) != 0L; i++) {
                serveOneOrNone();
            }
        }

        private void serveOneOrNone() {
            long leavingLow = low & fullLow;
            long leavingHigh = high & fullHigh;
            long openLow = low & ~fullLow | leavingHigh;
            long openHigh = high & ~fullHigh;
            for (int k = 0; k < SEVENTH; k++) {
                openLow |= (leavingLow & HAS[k]) >>> (1 << k);
                openHigh |= (leavingHigh & HAS[k]) >>> (1 << k);
            }
            for (int k = 0; k < SEVENTH; k++) {
                low |= (openLow & ~HAS[k]) << (1 << k);
                high |= (openHigh & ~HAS[k]) << (1 << k);
            }
            high |= openLow;
        }
    }
}
