/** Promises 8 to 13 and 15 to 17, by hand, and the refusals of all calls. */
public final class ToldTest {
    private static final Due due = new Due("ToldTest");

    public static void main(String[] args) {
        told();
        reach();
        room();
        waiting();
        follows();
        house();
        shelvesKeepAll();
        shelvesAreTwo();
        backGoesOnAsBefore();
        digest();
        refusalsChangeNothing();
        due.end();
    }

    /** Two askers at work in a room of three, with a share, hits, stalls, waste, and one read through. */
    private static ReadAhead busy() {
        ReadAhead x = new ReadAhead();
        x.clear(3, 1, 2);
        x.share(1, 1);
        x.kind(0, 1, 3);
        x.ask(0, 10);
        x.ask(1, 40);
        x.ask(0, 11);
        x.ask(1, 40);
        return x;
    }

    /**
     * ask(0, 10) stalls, and 11, 12, 13 wait; ask(1, 40) stalls, and behind it the arm, at 40,
     * fetches 13; ask(0, 11) stalls, for 11 waits still: the oldest, 10, goes, and 14 waits;
     * ask(1, 40) is a hit, and behind it the arm, at 11, fetches 12: 13 goes fresh.
     */
    private static void told() {
        ReadAhead x = busy();
        int[][] want = {
            {2, 0, 2, 2, 1, 0, 0, 2, 0, 1},
            {2, 1, 1, 0, 0, 0, 0, 1, 1, 0},
            {0, 0, 0, 0, 0, 0, 0, 0, 0, 0},
            {0, 0, 0, 0, 0, 0, 0, 0, 0, 0}
        };
        for (int what = 0; what < 10; what++) {
            int all = 0;
            for (int p = 0; p < 4; p++) {
                due.is("told(" + p + ", " + what + ")", x.told(p, what), want[p][what]);
                all += want[p][what];
            }
            due.is("told(-1, " + what + ")", x.told(ReadAhead.NONE, what), all);
        }
        due.is("ask(0, 12)", x.ask(0, 12), 0);
        due.is("told(0, 5)", x.told(0, 5), 1);
        due.is("told(-1, 5)", x.told(-1, 5), 1);
        x.share(0, 2);
        due.is("ask(2, 60)", x.ask(2, 60), 1);
        due.is("told(2, 6)", x.told(2, 6), 1);
        due.is("told(-1, 6)", x.told(-1, 6), 1);
        due.is("told(-1, 8)", x.told(-1, 8), 3);
        due.is("told(4, 0)", x.told(4, 0), ReadAhead.UNKNOWN);
        due.is("told(-2, 0)", x.told(-2, 0), ReadAhead.UNKNOWN);
        due.is("told(4, 10)", x.told(4, 10), ReadAhead.UNKNOWN);
        due.is("told(0, 10)", x.told(0, 10), ReadAhead.OUTSIDE);
        due.is("told(0, -1)", x.told(0, -1), ReadAhead.OUTSIDE);
        due.is("told(-1, 10)", x.told(-1, 10), ReadAhead.OUTSIDE);
        due.is("told(-1, -1)", x.told(-1, -1), ReadAhead.OUTSIDE);
    }

    private static void reach() {
        ReadAhead x = busy();
        due.is("reach(0)", x.reach(0), 3);
        due.is("reach(1)", x.reach(1), 0);
        due.is("reach(-1)", x.reach(-1), ReadAhead.UNKNOWN);
        due.is("reach(4)", x.reach(4), ReadAhead.UNKNOWN);
        x.kind(0, 5, 8);
        due.is("reach(0)", x.reach(0), 8);
        x.ask(0, 30);
        x.ask(0, 31);
        due.is("told(0, 4)", x.told(0, 4), 2);
        due.is("reach(0)", x.reach(0), 4);
    }

    private static void room() {
        ReadAhead x = busy();
        int[][] want = {{11, 0, 0, 0}, {40, 1, 0, 0}, {12, 0, 1, 0}};
        for (int i = 0; i < 3; i++) {
            for (int what = 0; what < 4; what++) {
                due.is("room(" + i + ", " + what + ")", x.room(i, what), want[i][what]);
            }
        }
        for (int what = 0; what < 4; what++) {
            due.is("room(3, " + what + ")", x.room(3, what), ReadAhead.NONE);
            due.is("room(-1, " + what + ")", x.room(-1, what), ReadAhead.NONE);
            due.is("room(MAX, " + what + ")", x.room(Integer.MAX_VALUE, what), ReadAhead.NONE);
        }
        due.is("room(0, 4)", x.room(0, 4), ReadAhead.OUTSIDE);
        due.is("room(0, -1)", x.room(0, -1), ReadAhead.OUTSIDE);
        due.is("room(-1, 4)", x.room(-1, 4), ReadAhead.OUTSIDE);
        due.is("room(99, -1)", x.room(99, -1), ReadAhead.OUTSIDE);
        x.kind(0, 4, 0);
        x.hint(0, 12, 20);
        due.is("room(2, 3)", x.room(2, 3), 1);
        due.is("room(0, 3)", x.room(0, 3), 0);
    }

    private static void waiting() {
        ReadAhead x = busy();
        due.is("waiting(0, 0)", x.waiting(0, 0), 14);
        due.is("waiting(0, 1)", x.waiting(0, 1), 0);
        due.is("waiting(1, 0)", x.waiting(1, 0), ReadAhead.NONE);
        due.is("waiting(1, 1)", x.waiting(1, 1), ReadAhead.NONE);
        due.is("waiting(-1, 0)", x.waiting(-1, 0), ReadAhead.NONE);
        due.is("waiting(MIN, 1)", x.waiting(Integer.MIN_VALUE, 1), ReadAhead.NONE);
        due.is("waiting(0, 2)", x.waiting(0, 2), ReadAhead.OUTSIDE);
        due.is("waiting(0, -1)", x.waiting(0, -1), ReadAhead.OUTSIDE);
        due.is("waiting(-1, 2)", x.waiting(-1, 2), ReadAhead.OUTSIDE);
    }

    private static void follows() {
        ReadAhead x = busy();
        due.is("follows(0, 10)", x.follows(0, 10), 11);
        due.is("follows(0, 11)", x.follows(0, 11), ReadAhead.NONE);
        due.is("follows(1, 40)", x.follows(1, 40), 40);
        due.is("follows(1, 10)", x.follows(1, 10), ReadAhead.NONE);
        due.is("follows(0, 0)", x.follows(0, 0), ReadAhead.NONE);
        due.is("follows(0, 63)", x.follows(0, 63), ReadAhead.NONE);
        due.is("follows(0, -1)", x.follows(0, -1), ReadAhead.OUTSIDE);
        due.is("follows(0, 64)", x.follows(0, 64), ReadAhead.OUTSIDE);
        due.is("follows(4, 64)", x.follows(4, 64), ReadAhead.UNKNOWN);
        due.is("follows(-1, 0)", x.follows(-1, 0), ReadAhead.UNKNOWN);
        x.ask(0, 5);
        x.ask(0, 10);
        x.ask(0, 20);
        due.is("follows(0, 10) the latest time", x.follows(0, 10), 20);
    }

    /** The arm went 10, 30 to 40, 27 to 13, 2 to 11, and 1 to 12, in three stalls and two paces. */
    private static void house() {
        ReadAhead x = busy();
        int[] want = {12, 5, 3, 1, 3, 1, 70, 2};
        for (int what = 0; what < 8; what++) {
            due.is("house(" + what + ")", x.house(what), want[what]);
        }
        due.is("house(8)", x.house(8), ReadAhead.OUTSIDE);
        due.is("house(-1)", x.house(-1), ReadAhead.OUTSIDE);
    }

    private static void shelvesKeepAll() {
        ReadAhead x = busy();
        x.kind(2, 4, 2);
        x.hint(2, 20, 25);
        String kept = View.of(x);
        due.is("keep(0)", x.keep(0), 1);
        due.same("keep(0)", View.of(x), kept);
        x.ask(2, 20);
        x.share(0, 2);
        x.kind(2, 5, 7);
        x.idle(3);
        String later = View.of(x);
        due.yes("later is another", !later.equals(kept));
        due.is("back(0)", x.back(0), 1);
        due.same("back(0)", View.of(x), kept);
        due.is("the kind came back", x.kind(1, 2, 0), 0);
        x.ask(2, 24);
        due.is("the span came back", x.waiting(x.house(5) - 1, 0), 25);
        due.is("back(0) again", x.back(0), 1);
        due.same("back(0) again", View.of(x), kept);
        x.clear(1, 1, 1);
        x.keep(0);
        x.ask(0, 1);
        x.back(0);
        due.is("keep(0) anew", x.house(2), 1);
        due.is("keep(0) anew", x.house(1), 0);
    }

    private static void shelvesAreTwo() {
        ReadAhead x = new ReadAhead();
        due.is("keep(-1)", x.keep(-1), ReadAhead.UNKNOWN);
        due.is("keep(2)", x.keep(2), ReadAhead.UNKNOWN);
        due.is("back(-1)", x.back(-1), ReadAhead.UNKNOWN);
        due.is("back(2)", x.back(2), ReadAhead.UNKNOWN);
        x.ask(0, 1);
        due.is("keep(1)", x.keep(1), 1);
        due.is("back(0) of an empty one", x.back(0), ReadAhead.NOT);
        due.is("back(1)", x.back(1), 1);
        due.is("back() leaves shelves alone", x.back(0), ReadAhead.NOT);
        x.ask(0, 2);
        x.keep(0);
        x.back(1);
        due.is("shelf 1", x.told(0, 0), 1);
        x.back(0);
        due.is("shelf 0", x.told(0, 0), 2);
    }

    /** What no call tells (steps, spans, the row, the number of asks) must come back too. */
    private static void backGoesOnAsBefore() {
        ReadAhead x = new ReadAhead();
        x.clear(4, 1, 3);
        x.kind(0, 2, 2);
        x.ask(0, 10);
        x.ask(0, 13);
        x.keep(1);
        String first = goOn(x);
        x.clear(2, 3, 1);
        x.kind(0, 1, 8);
        x.ask(0, 50);
        x.ask(0, 1);
        x.back(1);
        due.same("going on", goOn(x), first);
    }

    private static String goOn(ReadAhead x) {
        StringBuilder text = new StringBuilder();
        for (int block = 16; block < 40; block += 3) {
            text.append(x.ask(0, block)).append(' ').append(View.of(x)).append('\n');
        }
        return text.toString();
    }

    private static int mixed(int... numbers) {
        int d = 7;
        for (int n : numbers) {
            d = 31 * d + n;
        }
        return d;
    }

    private static void digest() {
        due.is("digest() of a new one", new ReadAhead().digest(), mixed(4, 1, 2, 0, 0,
                0, 0, 0, 0, 0, 0, 0, 0, 0, 0, 0, 0, 0, 0, 0, 0, 0, 0,
                0, 0, 0, 0, 0, 0, 0, 0, 0, 0, 0, 0, 0, 0, 0, 0, 0, 0));
        ReadAhead x = busy();
        x.kind(3, 5, 8);
        due.is("digest()", x.digest(), mixed(3, 1, 2, 12, 5,
                11, 0, 0, 40, 1, 0, 12, 0, 1,
                14, 0,
                2, 0, 2, 2, 1, 0, 0, 1, 3,
                2, 1, 1, 0, 0, 0, 0, 0, 0,
                0, 0, 0, 0, 0, 0, 0, 0, 0,
                0, 0, 0, 0, 0, 0, 0, 5, 8));
        int before = x.digest();
        x.keep(0);
        due.is("digest() has nothing of shelves", x.digest(), before);
    }

    private static void refusalsChangeNothing() {
        int[] far = {Integer.MIN_VALUE, -2, 64, Integer.MAX_VALUE};
        ReadAhead x = busy();
        String before = View.of(x);
        for (int n : far) {
            due.is("clear(" + n + ", 1, 1)", x.clear(n, 1, 1), ReadAhead.OUTSIDE);
            due.is("clear(1, " + n + ", 1)", x.clear(1, n, 1), ReadAhead.OUTSIDE);
            due.is("clear(1, 1, " + n + ")", x.clear(1, 1, n), ReadAhead.OUTSIDE);
            due.is("share(" + n + ", 0)", x.share(n, 0), ReadAhead.UNKNOWN);
            due.is("share(0, " + n + ")", x.share(0, n), ReadAhead.OUTSIDE);
            due.is("kind(" + n + ", 0, 0)", x.kind(n, 0, 0), ReadAhead.UNKNOWN);
            due.is("kind(0, " + n + ", 0)", x.kind(0, n, 0), ReadAhead.OUTSIDE);
            due.is("kind(0, 0, " + n + ")", x.kind(0, 0, n), ReadAhead.OUTSIDE);
            due.is("hint(" + n + ", 0, 0)", x.hint(n, 0, 0), ReadAhead.UNKNOWN);
            due.is("hint(0, " + n + ", 63)", x.hint(0, n, 63), ReadAhead.OUTSIDE);
            due.is("hint(0, 0, " + n + ")", x.hint(0, 0, n), ReadAhead.OUTSIDE);
            due.is("ask(" + n + ", 0)", x.ask(n, 0), ReadAhead.UNKNOWN);
            due.is("ask(0, " + n + ")", x.ask(0, n), ReadAhead.OUTSIDE);
            due.is("told(" + n + ", 0)", x.told(n, 0), ReadAhead.UNKNOWN);
            due.is("told(0, " + n + ")", x.told(0, n), ReadAhead.OUTSIDE);
            due.is("reach(" + n + ")", x.reach(n), ReadAhead.UNKNOWN);
            due.is("room(0, " + n + ")", x.room(0, n), ReadAhead.OUTSIDE);
            due.is("waiting(0, " + n + ")", x.waiting(0, n), ReadAhead.OUTSIDE);
            due.is("follows(" + n + ", 0)", x.follows(n, 0), ReadAhead.UNKNOWN);
            due.is("follows(0, " + n + ")", x.follows(0, n), ReadAhead.OUTSIDE);
            due.is("house(" + n + ")", x.house(n), ReadAhead.OUTSIDE);
            due.is("foresight(" + n + ")", x.foresight(n), ReadAhead.OUTSIDE);
            due.is("keep(" + n + ")", x.keep(n), ReadAhead.UNKNOWN);
            due.is("back(" + n + ")", x.back(n), ReadAhead.UNKNOWN);
        }
        int[][] justOutside = {{0, 1, 1}, {13, 1, 1}, {1, 0, 1}, {1, 4, 1}, {1, 1, 0}, {1, 1, 5}};
        for (int[] c : justOutside) {
            due.is("clear(" + c[0] + ", " + c[1] + ", " + c[2] + ")", x.clear(c[0], c[1], c[2]), ReadAhead.OUTSIDE);
        }
        due.is("idle(-1)", x.idle(-1), ReadAhead.OUTSIDE);
        due.is("idle(65)", x.idle(65), ReadAhead.OUTSIDE);
        due.is("share(0, 3)", x.share(0, 3), ReadAhead.NOT);
        due.is("hint(0, 1, 2)", x.hint(0, 1, 2), ReadAhead.NOT);
        due.is("back(0)", x.back(0), ReadAhead.NOT);
        due.same("behind all refusals", View.of(x), before);
        due.same("going on behind them", goOn(x), goOn(busy()));
    }
}
