/**
 * The boundary cases of the promises, in their order, a test for each sentence that names one: the
 * sentence stands ahead of its test. (Promise 14 is in ForesightBoundsTest.)
 */
public final class CallsBoundsTest {
    private static final Due due = new Due("CallsBoundsTest");
    private static final int NONE = ReadAhead.NONE, UNKNOWN = ReadAhead.UNKNOWN;
    private static final int OUTSIDE = ReadAhead.OUTSIDE, NOT = ReadAhead.NOT;
    private static final int MIN = Integer.MIN_VALUE, MAX = Integer.MAX_VALUE;

    public static void main(String[] args) {
        house();
        told();
        shelves();
        firstRefusalOfSeveral();
        refusedAnywhere();
        fiveHundredAndTwelveCalls();
        due.end();
    }

    private static void house() {
        newIsEmpty();
        newIsNotShared();
        clearHasBounds();
        clearTakesAllOrNothing();
        clearTellsAsks();
        clearLeavesNothingBehind();
        clearLeavesShelves();
        shareHasBounds();
        shareUpToSpace();
        shareSendsNobodyAway();
        kindHasBounds();
        refusedKindLeavesSpanAndReach();
        hintHasBounds();
        hintOnlyOfHinted();
        refusedHintLeavesTheSpan();
        hintIsLookedAtFromNowOn();
        askHasBounds();
        refusedAskIsNoAsk();
        idleHasBounds();
        idleTellsThoseThatCame();
    }

    private static void told() {
        toldHasBounds();
        toldOfAllIsTheSum();
        reachHasBounds();
        roomHasBounds();
        emptyRoom();
        fullRoom();
        waitingHasBounds();
        emptyWaiting();
        fullWaiting();
        followsHasBounds();
        houseHasBounds();
        tellingChangesNothing();
    }

    private static void shelves() {
        keepHasBounds();
        keepOverwrites();
        backHasBounds();
        backOfAnEmptyOne();
        backBringsAllWhateverCame();
        backLeavesShelves();
        backBringsTheNumberOfAsks();
        digestWraps();
        digestIsOfWhatIsToldAlone();
    }

    private static ReadAhead cleared(int space, int speed, int pace) {
        return Bench.cleared(space, speed, pace);
    }

    private static void asks(ReadAhead x, int p, int... blocks) {
        Bench.asks(x, p, blocks);
    }

    /** A room of three that is full, one with a span, a cautious one, some that wait, and a share. */
    private static ReadAhead busy() {
        ReadAhead x = cleared(3, 1, 4);
        x.share(1, 1);
        x.kind(0, 4, 3);
        x.hint(0, 10, 20);
        x.kind(2, 5, 7);
        asks(x, 0, 10, 12);
        asks(x, 2, 40);
        asks(x, 1, 5);
        return x;
    }

    /** How it goes on from here shows what no call tells: spans, steps, the row, the number of asks. */
    private static String goingOn(ReadAhead x) {
        StringBuilder text = new StringBuilder(View.of(x));
        for (int i = 0; i < 6; i++) {
            for (int p = 0; p < 4; p++) {
                text.append('\n').append(x.ask(p, 11 + 2 * i + 3 * p)).append(' ').append(View.of(x));
            }
        }
        return text.toString();
    }

    private static void asIfNeverCalled(String what, ReadAhead x, ReadAhead twin) {
        due.same(what + " changes nothing", goingOn(x), goingOn(twin));
    }

    // ---- promises 1 and 2

    /** "THE ROOM is empty, nobody waits; all ASKERS are PLAIN with REACH 0; SHELVES are empty." */
    private static void newIsEmpty() {
        ReadAhead x = new ReadAhead();
        due.is("in the room", x.house(4), 0);
        due.is("waiting", x.house(5), 0);
        due.is("idle(64)", x.idle(64), 0);
        for (int p = 0; p < 4; p++) {
            due.is("reach(" + p + ")", x.reach(p), 0);
            due.is("kind(" + p + ", 0, 0)", x.kind(p, 0, 0), 0);
        }
        due.is("back(0)", x.back(0), NOT);
        due.is("back(1)", x.back(1), NOT);
        due.is("clear(), of no asks", x.clear(4, 1, 2), 0);
    }

    /** The same: a new one is so whatever was done with another one. */
    private static void newIsNotShared() {
        ReadAhead x = busy();
        x.keep(0);
        x.keep(1);
        ReadAhead y = new ReadAhead();
        due.same("a new one beside a busy one", View.of(y), View.of(cleared(4, 1, 2)));
        due.is("back(0) of a new one", y.back(0), NOT);
        String before = View.of(x);
        asks(y, 0, 1, 2, 3);
        y.keep(0);
        due.same("the busy one beside it", View.of(x), before);
    }

    /** "SPACE (1 .. 12 ...", "SPEED (1 .. 3 ...", "PACE (1 .. 4 ...": "OUTSIDE" */
    private static void clearHasBounds() {
        int[] numbers = {MIN, -1, 0, 1, 2, 3, 4, 5, 11, 12, 13, MAX};
        for (int space : numbers) {
            for (int speed : numbers) {
                for (int pace : numbers) {
                    boolean fits = space >= 1 && space <= 12 && speed >= 1 && speed <= 3 && pace >= 1 && pace <= 4;
                    String call = "clear(" + space + ", " + speed + ", " + pace + ")";
                    ReadAhead x = new ReadAhead();
                    due.is(call, x.clear(space, speed, pace), fits ? 0 : OUTSIDE);
                    due.is(call + ": space", x.house(2), fits ? space : 4);
                    due.is(call + ": speed", x.house(3), fits ? speed : 1);
                    due.is(call + ": pace", x.house(7), fits ? pace : 2);
                }
            }
        }
    }

    /** "What is refused changes nothing": not those of the three numbers that were right, either. */
    private static void clearTakesAllOrNothing() {
        ReadAhead x = busy();
        due.is("clear(13, 2, 2)", x.clear(13, 2, 2), OUTSIDE);
        due.is("clear(2, 4, 2)", x.clear(2, 4, 2), OUTSIDE);
        due.is("clear(2, 2, 5)", x.clear(2, 2, 5), OUTSIDE);
        due.is("clear(0, 0, 0)", x.clear(0, 0, 0), OUTSIDE);
        asIfNeverCalled("a refused clear()", x, busy());
    }

    /** "how many ASKS there were": since the clear() ahead of it, refused ones not counted. */
    private static void clearTellsAsks() {
        ReadAhead x = busy();
        x.ask(0, 64);
        x.ask(4, 0);
        due.is("four asks", x.clear(3, 1, 4), 4);
        due.is("none since then", x.clear(3, 1, 4), 0);
        for (int i = 0; i < 250; i++) {
            x.ask(0, 7);
        }
        due.is("more than the row has", x.clear(3, 1, 4), 250);
    }

    /** "All as at first but SPACE, SPEED, PACE (told now)" */
    private static void clearLeavesNothingBehind() {
        ReadAhead x = busy();
        asks(x, 0, 13, 14);
        x.clear(3, 1, 4);
        asIfNeverCalled("what was ahead of clear()", x, cleared(3, 1, 4));
        x = cleared(12, 1, 4);
        x.share(0, 12);
        x.clear(1, 1, 4);
        due.is("shares that a smaller room could not keep", x.told(NONE, 8), 0);
        due.is("share(3, 1)", x.share(3, 1), 0);
        x = cleared(3, 1, 4);
        x.kind(0, 4, 8);
        x.hint(0, 0, 63);
        x.clear(12, 1, 4);
        due.is("hint() of one that is plain again", x.hint(0, 0, 63), NOT);
        x.kind(0, 4, 8);
        asks(x, 0, 10);
        due.is("the span is gone", x.house(5), 0);
        x = cleared(12, 1, 4);
        asks(x, 0, 10, 13);
        x.clear(12, 1, 4);
        x.kind(0, 2, 8);
        asks(x, 0, 16, 19);
        due.is("the steps are gone: this is the first one", x.house(5), 0);
        asks(x, 0, 22);
        due.is("and this the second", x.waiting(0, 0), 25);
    }

    /** "and SHELVES": a full one stays full, an empty one empty. */
    private static void clearLeavesShelves() {
        ReadAhead x = busy();
        x.keep(1);
        x.clear(12, 3, 1);
        due.is("back(0)", x.back(0), NOT);
        due.is("back(1)", x.back(1), 1);
        asIfNeverCalled("clear(), behind back()", x, busy());
    }

    // ---- promises 3 to 5

    /** "UNKNOWN, OUTSIDE (0 .. 12)" */
    private static void shareHasBounds() {
        ReadAhead x = cleared(12, 1, 4);
        for (int p : new int[] {MIN, NONE, 4, MAX}) {
            due.is("share(" + p + ", 0)", x.share(p, 0), UNKNOWN);
        }
        for (int n : new int[] {MIN, -1, 13, MAX}) {
            due.is("share(0, " + n + ")", x.share(0, n), OUTSIDE);
        }
        due.is("share(0, 12)", x.share(0, 12), 0);
        due.is("share(0, 0)", x.share(0, 0), 12);
        due.is("share(3, 12)", x.share(3, 12), 0);
        due.is("share(3, 12)", x.share(3, 12), 12);
    }

    /** "NOT: all would be above SPACE": its own share of before does not count. */
    private static void shareUpToSpace() {
        for (int space = 1; space <= 12; space++) {
            ReadAhead x = cleared(space, 1, 4);
            due.is("share(0, " + space + ")", x.share(0, space), 0);
            due.is("share(0, " + space + ") again", x.share(0, space), space);
            due.is("share(1, 1)", x.share(1, 1), NOT);
            due.is("share(1, 0)", x.share(1, 0), 0);
            due.is("share(0, " + (space + 1) + ")", x.share(0, space + 1), space == 12 ? OUTSIDE : NOT);
            due.is("told(0, 8)", x.told(0, 8), space);
            due.is("share(0, " + (space - 1) + ")", x.share(0, space - 1), space);
            due.is("share(1, 1)", x.share(1, 1), 0);
            due.is("share(1, 2)", x.share(1, 2), NOT);
            due.is("told(1, 8)", x.told(1, 8), 1);
        }
    }

    /** "SHARE of ASKER p becomes n": the room is as it was, whoever has more or less than that. */
    private static void shareSendsNobodyAway() {
        ReadAhead x = cleared(3, 1, 4);
        asks(x, 0, 1, 2);
        asks(x, 1, 3);
        String before = Bench.room(x);
        x.share(1, 3);
        x.share(1, 0);
        x.share(2, 3);
        due.same("room", Bench.room(x), before);
    }

    /** "KIND and REACH of ASKER p: its KIND ahead of that. UNKNOWN, OUTSIDE." */
    private static void kindHasBounds() {
        ReadAhead x = new ReadAhead();
        for (int p : new int[] {MIN, NONE, 4, MAX}) {
            due.is("kind(" + p + ", 0, 0)", x.kind(p, 0, 0), UNKNOWN);
        }
        int[] numbers = {MIN, -1, 0, 1, 4, 5, 6, 7, 8, 9, MAX};
        int kindNow = 0;
        int reachNow = 0;
        for (int kind : numbers) {
            for (int reach : numbers) {
                boolean fits = kind >= 0 && kind <= 5 && reach >= 0 && reach <= 8;
                due.is("kind(3, " + kind + ", " + reach + ")", x.kind(3, kind, reach), fits ? kindNow : OUTSIDE);
                kindNow = fits ? kind : kindNow;
                reachNow = fits ? reach : reachNow;
                due.is("reach(3)", x.reach(3), reachNow);
            }
        }
    }

    /** "What is refused changes nothing" */
    private static void refusedKindLeavesSpanAndReach() {
        ReadAhead x = busy();
        ReadAhead twin = busy();
        x.idle(7);
        twin.idle(7);
        due.is("two of seven were wasted", x.told(2, 4), 2);
        due.is("a reach of its own, half of half of 7", x.reach(2), 1);
        due.is("kind(2, 5, 9)", x.kind(2, 5, 9), OUTSIDE);
        due.is("kind(2, 6, 7)", x.kind(2, 6, 7), OUTSIDE);
        due.is("kind(0, 4, -1)", x.kind(0, 4, -1), OUTSIDE);
        due.is("kind(0, -1, 3)", x.kind(0, -1, 3), OUTSIDE);
        asIfNeverCalled("a refused kind()", x, twin);
    }

    /** "from a to b (0 .. 63, a not above b): 1. UNKNOWN, OUTSIDE" */
    private static void hintHasBounds() {
        ReadAhead x = new ReadAhead();
        x.kind(0, 4, 8);
        for (int p : new int[] {MIN, NONE, 4, MAX}) {
            due.is("hint(" + p + ", 0, 0)", x.hint(p, 0, 0), UNKNOWN);
        }
        int[] numbers = {MIN, -1, 0, 1, 62, 63, 64, MAX};
        for (int a : numbers) {
            for (int b : numbers) {
                boolean fits = a >= 0 && a <= b && b <= 63;
                due.is("hint(0, " + a + ", " + b + ")", x.hint(0, a, b), fits ? 1 : OUTSIDE);
            }
        }
    }

    /** "NOT: it is not HINTED" */
    private static void hintOnlyOfHinted() {
        for (int kind = 0; kind <= 5; kind++) {
            ReadAhead x = cleared(4, 1, 4);
            x.kind(1, kind, 8);
            due.is("hint(1, 0, 63) of kind " + kind, x.hint(1, 0, 63), kind == 4 ? 1 : NOT);
            due.is("hint(1, 64, 63) of kind " + kind, x.hint(1, 64, 63), OUTSIDE);
        }
        ReadAhead x = cleared(4, 1, 4);
        x.hint(1, 0, 63);
        x.kind(1, 4, 8);
        asks(x, 1, 10);
        due.is("a refused span is not kept for later", x.house(5), 0);
    }

    /** "What is refused changes nothing" */
    private static void refusedHintLeavesTheSpan() {
        ReadAhead x = busy();
        due.is("hint(0, 5, 64)", x.hint(0, 5, 64), OUTSIDE);
        due.is("hint(0, -1, 5)", x.hint(0, -1, 5), OUTSIDE);
        due.is("hint(0, 6, 5)", x.hint(0, 6, 5), OUTSIDE);
        due.is("hint(2, 5, 6)", x.hint(2, 5, 6), NOT);
        asIfNeverCalled("a refused hint()", x, busy());
    }

    /** "(What is in it is looked at from now on.)": nothing is wished for yet, and the span of before is gone. */
    private static void hintIsLookedAtFromNowOn() {
        ReadAhead x = cleared(12, 1, 4);
        x.kind(0, 4, 2);
        asks(x, 0, 10);
        x.hint(0, 10, 20);
        due.is("no wishes yet", x.house(5), 0);
        asks(x, 0, 11);
        due.same("by the span", Bench.line(x), "12/0 13/0");
        due.same("by the span", Bench.left(x), "10");
        x.hint(0, 11, 12);
        due.same("those that wait go on waiting", Bench.line(x), "12/0 13/0");
        due.same("10 is not in the new span", Bench.left(x), "");
        asks(x, 0, 12);
        due.same("nothing of the span of before", Bench.line(x), "13/0");
        due.same("by the new span", Bench.left(x), "11");
    }

    // ---- promises 6 and 7

    /** "ASKER p asks for a BLOCK: STALLS. UNKNOWN, OUTSIDE." */
    private static void askHasBounds() {
        for (int p : new int[] {MIN, NONE, 0, 3, 4, MAX}) {
            for (int block : new int[] {MIN, -1, 0, 63, 64, MAX}) {
                int want = p < 0 || p > 3 ? UNKNOWN : block < 0 || block > 63 ? OUTSIDE : 1;
                ReadAhead x = new ReadAhead();
                due.is("ask(" + p + ", " + block + ")", x.ask(p, block), want);
                due.is("asks", x.told(NONE, 0), want == 1 ? 1 : 0);
                due.is("once more", x.ask(p, block), want == 1 ? 0 : want);
            }
        }
    }

    /** "What is refused changes nothing": not counted for the pace, not in the row, not learnt. */
    private static void refusedAskIsNoAsk() {
        ReadAhead x = busy();
        for (int i = 0; i < 5; i++) {
            x.ask(0, 64);
            x.ask(0, -1);
            x.ask(4, 10);
            x.ask(NONE, 10);
        }
        asIfNeverCalled("a refused ask()", x, busy());
    }

    /** "n TICKS (0 .. 64) pass ... OUTSIDE." */
    private static void idleHasBounds() {
        for (int n : new int[] {MIN, -1, 65, MAX}) {
            ReadAhead x = busy();
            due.is("idle(" + n + ")", x.idle(n), OUTSIDE);
            asIfNeverCalled("idle(" + n + ")", x, busy());
        }
        ReadAhead x = busy();
        due.is("idle(0)", x.idle(0), 0);
        asIfNeverCalled("idle(0)", x, busy());
        for (int n : new int[] {1, 63, 64}) {
            x = new ReadAhead();
            due.is("idle(" + n + ") of a new one", x.idle(n), 0);
            due.is("ticks", x.house(1), n);
            due.is("no asks", x.told(NONE, 0), 0);
            due.is("no stalls", x.told(NONE, 2), 0);
        }
    }

    /** "how many BLOCKS came to THE ROOM": also those that went again; not those that did not come. */
    private static void idleTellsThoseThatCame() {
        ReadAhead x = cleared(1, 3, 4);
        x.kind(0, 1, 8);
        asks(x, 0, 10);
        due.is("three came, one stays", x.idle(1), 3);
        due.is("in the room", x.house(4), 1);
        due.is("the other five", x.idle(64), 5);
        x = cleared(2, 1, 4);
        x.share(0, 2);
        asks(x, 0, 1, 2);
        x.kind(1, 1, 8);
        asks(x, 1, 30);
        due.is("none may come", x.idle(3), 0);
        x.share(0, 1);
        due.is("now they may", x.idle(64), 5);
        due.is("served ahead, all in all", x.told(1, 3), 8);
    }

    // ---- promises 8 to 13

    /** "Of ASKER p (NONE: of all): what = 0 ... 9 ... UNKNOWN, OUTSIDE." */
    private static void toldHasBounds() {
        ReadAhead x = new ReadAhead();
        for (int p : new int[] {MIN, -101, -2, NONE, 0, 3, 4, MAX}) {
            for (int what : new int[] {MIN, -1, 0, 9, 10, MAX}) {
                int want = p < NONE || p > 3 ? UNKNOWN : what < 0 || what > 9 ? OUTSIDE : 0;
                due.is("told(" + p + ", " + what + ")", x.told(p, what), want);
            }
        }
    }

    /** "(NONE: of all)", "8 its SHARE (of all: all)" */
    private static void toldOfAllIsTheSum() {
        ReadAhead x = busy();
        x.share(3, 2);
        x.idle(2);
        for (int what = 0; what <= 9; what++) {
            int sum = x.told(0, what) + x.told(1, what) + x.told(2, what) + x.told(3, what);
            due.is("told(-1, " + what + ")", x.told(NONE, what), sum);
        }
        due.is("told(-1, 0)", x.told(NONE, 0), 4);
        due.is("told(-1, 7)", x.told(NONE, 7), x.house(4));
        due.is("told(-1, 8)", x.told(NONE, 8), 3);
        due.is("told(-1, 9)", x.told(NONE, 9), x.house(5));
    }

    /** "REACH of ASKER p, by which it wishes now (of a CAUTIOUS one its own). UNKNOWN." */
    private static void reachHasBounds() {
        ReadAhead x = new ReadAhead();
        for (int p : new int[] {MIN, NONE, 4, MAX}) {
            due.is("reach(" + p + ")", x.reach(p), UNKNOWN);
        }
        for (int p = 0; p < 4; p++) {
            x.kind(p, 5, 8 - p);
        }
        for (int p = 0; p < 4; p++) {
            due.is("reach(" + p + ")", x.reach(p), 8 - p);
        }
    }

    /** "NONE: there is none. OUTSIDE: what." */
    private static void roomHasBounds() {
        ReadAhead x = cleared(4, 1, 4);
        asks(x, 2, 7, 9);
        for (int i : new int[] {MIN, -1, 0, 1, 2, 3, 4, 12, MAX}) {
            for (int what : new int[] {MIN, -1, 4, MAX}) {
                due.is("room(" + i + ", " + what + ")", x.room(i, what), OUTSIDE);
            }
            for (int what = 0; what <= 3; what++) {
                int[] there = {i == 0 ? 7 : 9, 2, 0, 0};
                due.is("room(" + i + ", " + what + ")", x.room(i, what), i == 0 || i == 1 ? there[what] : NONE);
            }
        }
    }

    /** The same, of an empty room. */
    private static void emptyRoom() {
        ReadAhead x = new ReadAhead();
        for (int what = 0; what <= 3; what++) {
            due.is("room(0, " + what + ")", x.room(0, what), NONE);
        }
        due.is("room(0, 4)", x.room(0, 4), OUTSIDE);
        due.is("room(0, -1)", x.room(0, -1), OUTSIDE);
    }

    /** "by AGE, the oldest first", of a full room. */
    private static void fullRoom() {
        ReadAhead x = cleared(12, 1, 4);
        for (int block = 0; block < 13; block++) {
            x.ask(block % 4, block);
        }
        for (int i = 0; i < 12; i++) {
            due.is("room(" + i + ", 0)", x.room(i, 0), i + 1);
            due.is("room(" + i + ", 1)", x.room(i, 1), (i + 1) % 4);
        }
        due.is("room(12, 0)", x.room(12, 0), NONE);
    }

    /** "NONE. OUTSIDE: what." */
    private static void waitingHasBounds() {
        ReadAhead x = cleared(4, 1, 4);
        x.kind(3, 1, 2);
        asks(x, 3, 20);
        for (int i : new int[] {MIN, -1, 0, 1, 2, 15, 16, MAX}) {
            for (int what : new int[] {MIN, -1, 2, MAX}) {
                due.is("waiting(" + i + ", " + what + ")", x.waiting(i, what), OUTSIDE);
            }
            boolean there = i == 0 || i == 1;
            due.is("waiting(" + i + ", 0)", x.waiting(i, 0), there ? 21 + i : NONE);
            due.is("waiting(" + i + ", 1)", x.waiting(i, 1), there ? 3 : NONE);
        }
    }

    /** The same, where nobody waits. */
    private static void emptyWaiting() {
        ReadAhead x = new ReadAhead();
        due.is("waiting(0, 0)", x.waiting(0, 0), NONE);
        due.is("waiting(0, 1)", x.waiting(0, 1), NONE);
        due.is("waiting(0, 2)", x.waiting(0, 2), OUTSIDE);
        due.is("waiting(0, -1)", x.waiting(0, -1), OUTSIDE);
    }

    /** The same, where 16 wait. */
    private static void fullWaiting() {
        ReadAhead x = cleared(4, 1, 4);
        x.kind(1, 1, 8);
        asks(x, 1, 10, 30, 50);
        for (int i = 0; i < 16; i++) {
            due.is("waiting(" + i + ", 0)", x.waiting(i, 0), i < 8 ? 11 + i : 23 + i);
            due.is("waiting(" + i + ", 1)", x.waiting(i, 1), 1);
        }
        due.is("waiting(16, 0)", x.waiting(16, 0), NONE);
        due.is("waiting(16, 1)", x.waiting(16, 1), NONE);
    }

    /** "What followed a BLOCK for ASKER p; NONE. UNKNOWN, OUTSIDE." */
    private static void followsHasBounds() {
        ReadAhead x = new ReadAhead();
        asks(x, 3, 63, 0, 63);
        for (int p : new int[] {MIN, NONE, 4, MAX}) {
            due.is("follows(" + p + ", 0)", x.follows(p, 0), UNKNOWN);
            due.is("follows(" + p + ", 64)", x.follows(p, 64), UNKNOWN);
        }
        for (int block : new int[] {MIN, -1, 64, MAX}) {
            due.is("follows(3, " + block + ")", x.follows(3, block), OUTSIDE);
        }
        due.is("follows(3, 63)", x.follows(3, 63), 0);
        due.is("follows(3, 0)", x.follows(3, 0), 63);
        due.is("follows(3, 1)", x.follows(3, 1), NONE);
        due.is("follows(0, 63)", x.follows(0, 63), NONE);
        asks(x, 0, 63);
        due.is("another's ask follows nothing", x.follows(3, 63), 0);
        due.is("the first ask follows nothing", x.follows(0, 63), NONE);
    }

    /** "What = 0 THE ARM ... 7 PACE. OUTSIDE." */
    private static void houseHasBounds() {
        ReadAhead x = cleared(12, 3, 4);
        for (int what : new int[] {MIN, -1, 8, MAX}) {
            due.is("house(" + what + ")", x.house(what), OUTSIDE);
        }
        int[] want = {0, 0, 12, 3, 0, 0, 0, 4};
        for (int what = 0; what < 8; what++) {
            due.is("house(" + what + ")", x.house(what), want[what]);
        }
    }

    /** What is told is only told: twice the same, and the house goes on as if never asked. */
    private static void tellingChangesNothing() {
        ReadAhead x = busy();
        String first = View.of(x);
        due.same("told twice", View.of(x), first);
        ReadAhead twin = busy();
        for (int i = 0; i < 6; i++) {
            due.is("ask", x.ask(0, 10 + i), twin.ask(0, 10 + i));
            View.of(x);
        }
        due.same("told all the time", View.of(x), View.of(twin));
    }

    // ---- promises 15 to 17

    /** "SHELF s (0 .. 1) ... UNKNOWN." */
    private static void keepHasBounds() {
        ReadAhead x = new ReadAhead();
        for (int s : new int[] {MIN, -1, 2, MAX}) {
            due.is("keep(" + s + ")", x.keep(s), UNKNOWN);
        }
        due.is("back(0) behind refused ones", x.back(0), NOT);
        due.is("back(1) behind refused ones", x.back(1), NOT);
        due.is("keep(1)", x.keep(1), 1);
        due.is("back(0)", x.back(0), NOT);
        due.is("keep(0)", x.keep(0), 1);
        due.is("back(0)", x.back(0), 1);
    }

    /** "gets all as it is": whatever it had ahead of that, and nothing of what comes then. */
    private static void keepOverwrites() {
        ReadAhead x = cleared(12, 3, 1);
        x.kind(0, 1, 8);
        asks(x, 0, 10, 30, 50);
        x.keep(0);
        x.clear(3, 1, 4);
        x.keep(0);
        asks(x, 0, 1);
        due.is("back(0)", x.back(0), 1);
        asIfNeverCalled("what was kept ahead of that", x, cleared(3, 1, 4));
    }

    /** "UNKNOWN" */
    private static void backHasBounds() {
        ReadAhead x = busy();
        x.keep(0);
        x.keep(1);
        asks(x, 0, 13);
        String before = View.of(x);
        for (int s : new int[] {MIN, -1, 2, MAX}) {
            due.is("back(" + s + ")", x.back(s), UNKNOWN);
        }
        due.same("as it was", View.of(x), before);
    }

    /** "NOT: it is empty" */
    private static void backOfAnEmptyOne() {
        for (int s = 0; s < 2; s++) {
            ReadAhead x = busy();
            x.keep(1 - s);
            due.is("back(" + s + ")", x.back(s), NOT);
            asIfNeverCalled("back() of an empty one", x, busy());
        }
    }

    /** "All becomes what SHELF s has": from a full room to an empty one and back, steps and row too. */
    private static void backBringsAllWhateverCame() {
        for (int s = 0; s < 2; s++) {
            ReadAhead x = busy();
            x.keep(s);
            x.clear(12, 3, 1);
            x.keep(1 - s);
            fillOtherwise(x);
            x.back(s);
            asIfNeverCalled("what came behind keep(" + s + ")", x, busy());
            fillOtherwise(x);
            x.back(1 - s);
            asIfNeverCalled("what came behind keep(" + (1 - s) + ")", x, cleared(12, 3, 1));
        }
        ReadAhead x = cleared(12, 1, 4);
        x.kind(0, 2, 8);
        asks(x, 0, 10, 13, 16);
        x.keep(0);
        asks(x, 0, 60, 50);
        x.back(0);
        asks(x, 0, 19);
        due.is("a step of 3 as the time before: 43 is wished for", x.waiting(x.house(5) - 1, 0), 43);
    }

    /** All places of the room and of those that wait, with other blocks for other askers. */
    private static void fillOtherwise(ReadAhead x) {
        x.clear(12, 1, 4);
        for (int p = 0; p < 4; p++) {
            x.kind(p, 1, 8);
        }
        for (int i = 0; i < 14; i++) {
            x.ask(3 - i % 4, 63 - 4 * i);
        }
        due.is("the room is full", x.house(4), 12);
        due.is("all places to wait are taken", x.house(5), 16);
    }

    /** "All becomes what SHELF s has", "but SHELVES": it has it still, and so has the other one. */
    private static void backLeavesShelves() {
        ReadAhead x = new ReadAhead();
        x.keep(1);
        x.clear(12, 3, 4);
        x.keep(0);
        due.is("back(1)", x.back(1), 1);
        due.is("space", x.house(2), 4);
        due.is("back(0)", x.back(0), 1);
        due.is("space", x.house(2), 12);
        for (int i = 0; i < 2; i++) {
            due.is("back(1)", x.back(1), 1);
            due.is("space", x.house(2), 4);
            asks(x, 0, 10, 11, 12);
        }
        due.is("back(1)", x.back(1), 1);
        asIfNeverCalled("what was asked behind back()", x, new ReadAhead());
    }

    /** The same: "how many ASKS there were" and the pace are of all that came back. */
    private static void backBringsTheNumberOfAsks() {
        ReadAhead x = cleared(4, 1, 4);
        asks(x, 0, 5, 5, 5);
        x.keep(0);
        asks(x, 0, 5, 5);
        x.back(0);
        due.is("ticks", x.house(1), 1);
        asks(x, 0, 5);
        due.is("the fourth ask", x.house(1), 2);
        x.back(0);
        due.is("clear()", x.clear(4, 1, 4), 3);
    }

    /** "d becomes 31 d and that (wrapping)": the same, in longs, cut to 32 bits at the end. */
    private static void digestWraps() {
        ReadAhead x = busy();
        long d = 7;
        for (int what : new int[] {2, 3, 7, 0, 1}) {
            d = 31 * d + x.house(what);
        }
        for (int i = 0; i < x.house(4); i++) {
            d = 31 * (31 * (31 * d + x.room(i, 0)) + x.room(i, 1)) + x.room(i, 2);
        }
        for (int i = 0; i < x.house(5); i++) {
            d = 31 * (31 * d + x.waiting(i, 0)) + x.waiting(i, 1);
        }
        int[] kinds = {4, 0, 5, 0};
        for (int p = 0; p < 4; p++) {
            for (int what = 0; what <= 6; what++) {
                d = 31 * d + x.told(p, what);
            }
            d = 31 * (31 * d + kinds[p]) + x.reach(p);
        }
        due.is("digest()", x.digest(), (int) d);
    }

    /** "A digest of all but SHELVES": of what stands in its list, which shares and spans do not. */
    private static void digestIsOfWhatIsToldAlone() {
        ReadAhead x = busy();
        int before = x.digest();
        x.keep(0);
        x.keep(1);
        due.is("with shelves", x.digest(), before);
        x.share(3, 2);
        due.is("with a share", x.digest(), before);
        x.hint(0, 0, 1);
        due.is("with a span", x.digest(), before);
        x.kind(3, 0, 1);
        due.yes("with a reach it is another", x.digest() != before);
    }

    // ---- refusals, and how long an object is used

    /** "REFUSALS, of several the first in this order: UNKNOWN ..., OUTSIDE ..., NOT" */
    private static void firstRefusalOfSeveral() {
        ReadAhead x = busy();
        due.is("share: all three", x.share(4, 13), UNKNOWN);
        due.is("share: outside, and above space", x.share(0, 13), OUTSIDE);
        due.is("share: above space", x.share(0, 12), NOT);
        due.is("kind: both", x.kind(4, 6, 9), UNKNOWN);
        due.is("kind: outside", x.kind(0, 6, 9), OUTSIDE);
        due.is("hint: unknown and outside", x.hint(4, 64, 0), UNKNOWN);
        due.is("hint: outside, and not hinted", x.hint(1, 64, 0), OUTSIDE);
        due.is("hint: not hinted", x.hint(1, 0, 63), NOT);
        due.is("ask: both", x.ask(NONE, 64), UNKNOWN);
        due.is("told: both", x.told(4, 10), UNKNOWN);
        due.is("follows: both", x.follows(NONE, -1), UNKNOWN);
        due.is("back: there is no such shelf", x.back(2), UNKNOWN);
        due.is("back: it is empty", x.back(1), NOT);
        asks(x, 0, 1, 2, 3, 4, 6, 7, 8, 9);
        due.is("foresight: outside", x.foresight(25), OUTSIDE);
        due.is("foresight: eight unlike ones", x.foresight(24), NOT);
    }

    /** "What is refused changes nothing": any call, with numbers that are far out, in any state. */
    private static void refusedAnywhere() {
        int[] far = {MIN, MIN + 1, -1000, -103, -102, -101, -2, 65, 1000, MAX - 1, MAX};
        ReadAhead x = busy();
        ReadAhead twin = busy();
        for (int i = 0; i < 12; i++) {
            for (int n : far) {
                boolean refused = x.clear(n, 1, 1) < NONE && x.clear(1, n, 1) < NONE && x.clear(1, 1, n) < NONE
                        && x.share(n, n) < NONE && x.share(0, n) < NONE && x.kind(n, n, n) < NONE
                        && x.kind(0, n, 0) < NONE && x.kind(0, 0, n) < NONE && x.hint(n, n, n) < NONE
                        && x.hint(0, n, 63) < NONE && x.hint(0, 0, n) < NONE && x.ask(n, 0) < NONE
                        && x.ask(0, n) < NONE && x.idle(n) < NONE && x.told(n, 0) < NONE && x.told(0, n) < NONE
                        && x.reach(n) < NONE && x.room(n, n) < NONE && x.waiting(n, n) < NONE
                        && x.follows(n, 0) < NONE && x.follows(0, n) < NONE && x.house(n) < NONE
                        && x.foresight(n) < NONE && x.keep(n) < NONE && x.back(n) < NONE;
                due.yes("all are refused with " + n, refused);
            }
            due.same("behind refusals", View.of(x), View.of(twin));
            due.is("ask", x.ask(i % 4, 9 + i), twin.ask(i % 4, 9 + i));
        }
    }

    /** "An object is used for at most 512 calls after it has been made": till then all holds. */
    private static void fiveHundredAndTwelveCalls() {
        ReadAhead x = new ReadAhead();
        for (int i = 0; i < 507; i++) {
            x.ask(i % 4, 5);
        }
        due.is("asks", x.told(NONE, 0), 507);
        due.is("hits", x.told(NONE, 1), 506);
        due.is("ticks", x.house(1), 1 + 507 / 2);
        due.is("foresight(24)", x.foresight(24), 1);
        due.is("clear()", x.clear(1, 1, 1), 507);
        x = new ReadAhead();
        for (int i = 0; i < 511; i++) {
            x.idle(64);
        }
        due.is("ticks", x.house(1), 511 * 64);
        x = cleared(1, 1, 1);
        for (int i = 0; i < 510; i++) {
            x.ask(0, i % 2 == 0 ? 63 : 0);
        }
        due.is("the way of the arm", x.house(6), 510 * 63);
    }
}
