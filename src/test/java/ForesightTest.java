import java.util.Arrays;
import java.util.Random;

/** Promise 14: rows told by hand, the refusals, and random rows against a plain search. */
public final class ForesightTest {
    private static final Due due = new Due("ForesightTest");

    public static void main(String[] args) {
        byHand();
        asksAreNumberedSinceClear();
        refusals();
        againstSearch();
        ofSevenAgainstSearch();
        due.end();
    }

    private static ReadAhead asked(int space, int speed, int pace, int... blocks) {
        ReadAhead x = new ReadAhead();
        x.clear(space, speed, pace);
        for (int block : blocks) {
            x.ask(block % 4, block);
        }
        return x;
    }

    private static void byHand() {
        due.is("no ask", asked(4, 1, 2).foresight(24), 0);
        due.is("none of the asks", asked(4, 1, 2, 1, 2, 3).foresight(0), 0);
        due.is("one ask", asked(4, 1, 2, 9).foresight(1), 1);
        due.is("more than there are", asked(4, 1, 2, 9).foresight(24), 1);
        due.is("a tick behind each ask", asked(1, 1, 1, 1, 2, 3, 4, 5).foresight(5), 1);
        due.is("a tick behind each other ask", asked(4, 1, 2, 1, 2, 3, 4, 5).foresight(5), 3);
        due.is("three in a stall", asked(3, 3, 4, 1, 2, 3).foresight(3), 1);
        due.is("three in a stall, one of them read through", asked(2, 3, 4, 1, 2, 3).foresight(3), 1);
        due.is("two in a room of one", asked(1, 2, 4, 1, 2).foresight(2), 1);
        due.is("a room of one goes to and fro", asked(1, 1, 4, 1, 2, 1).foresight(3), 2);
        due.is("reading through keeps the room", asked(1, 1, 4, 1, 2, 1, 3, 1).foresight(5), 3);
        due.is("seven in a room of seven", asked(7, 1, 4, 0, 1, 2, 3, 4, 5, 6, 0, 1, 2, 3, 4, 5, 6).foresight(14), 6);
        due.is("seven in a room of six", asked(6, 1, 4, 0, 1, 2, 3, 4, 5, 6, 0, 1, 2, 3, 4, 5, 6).foresight(14), 6);
    }

    /** Of 1, 2, 3 with PACE 2 it is the second ask that a tick follows, also if it is looked at first. */
    private static void asksAreNumberedSinceClear() {
        due.is("2, 3 of 1, 2, 3", asked(4, 1, 2, 1, 2, 3).foresight(2), 1);
        due.is("3, 4 of 1, 2, 3, 4", asked(4, 1, 2, 1, 2, 3, 4).foresight(2), 2);
        ReadAhead x = asked(4, 1, 2, 1);
        x.clear(4, 1, 2);
        x.ask(0, 1);
        x.ask(0, 2);
        due.is("1, 2 behind a clear()", x.foresight(2), 2);
        due.is("1, 2 behind a clear()", x.foresight(24), 2);
    }

    private static void refusals() {
        ReadAhead x = asked(12, 3, 1, 0, 1, 2, 3, 4, 5, 6, 6, 0);
        due.is("foresight(-1)", x.foresight(-1), ReadAhead.OUTSIDE);
        due.is("foresight(25)", x.foresight(25), ReadAhead.OUTSIDE);
        due.is("foresight(MAX)", x.foresight(Integer.MAX_VALUE), ReadAhead.OUTSIDE);
        due.is("foresight(MIN)", x.foresight(Integer.MIN_VALUE), ReadAhead.OUTSIDE);
        due.is("seven unlike ones", x.foresight(24), 1);
        x.ask(0, 7);
        due.is("eight unlike ones", x.foresight(24), ReadAhead.NOT);
        due.is("eight unlike ones of ten", x.foresight(10), ReadAhead.NOT);
        due.is("seven unlike ones of the latest eight: 2 to 7, and 0", x.foresight(8), 1);
        due.is("eight unlike ones of the latest nine", x.foresight(9), ReadAhead.NOT);
        due.is("outside goes ahead of not", x.foresight(25), ReadAhead.OUTSIDE);
    }

    private static void againstSearch() {
        Random random = new Random(14);
        for (int run = 0; run < 250 && !due.hasWrong(); run++) {
            int space = 1 + random.nextInt(run % 3 == 0 ? 12 : 5);
            int speed = 1 + random.nextInt(3);
            int pace = 1 + random.nextInt(4);
            int[] blocks = row(random, 1 + random.nextInt(40));
            ReadAhead x = asked(space, speed, pace, blocks);
            for (int n = 0; n <= 24; n += 1 + random.nextInt(6)) {
                int from = Math.max(0, blocks.length - n);
                int[] latest = Arrays.copyOfRange(blocks, from, blocks.length);
                String call = "space " + space + " speed " + speed + " pace " + pace + " asks " + blocks.length
                        + " latest " + Arrays.toString(latest);
                due.is(call, x.foresight(n), new PlanSearch(latest, from + 1, space, speed, pace).least());
            }
        }
    }

    /**
     * Seven unlike blocks first, then any of them: in rows by chance the seventh comes so late that
     * it hardly matters what becomes of it. (Asks ahead of these move the numbers of the asks.)
     */
    private static void ofSevenAgainstSearch() {
        Random random = new Random(7);
        for (int run = 0; run < 200 && !due.hasWrong(); run++) {
            int space = 1 + random.nextInt(run % 2 == 0 ? 7 : 3);
            int speed = 1 + random.nextInt(2);
            int pace = 1 + random.nextInt(4);
            int ahead = random.nextInt(4);
            int[] latest = run % 2 == 0 ? rowOfSeven(random) : rowToAndFro(random);
            ReadAhead x = Bench.cleared(space, speed, pace);
            for (int i = 0; i < ahead; i++) {
                x.ask(0, 50);
            }
            Bench.asks(x, 0, latest);
            String call = "space " + space + " speed " + speed + " pace " + pace + " ahead " + ahead
                    + " latest " + Arrays.toString(latest);
            due.is(call, x.foresight(24), new PlanSearch(latest, ahead + 1, space, speed, pace).least());
        }
    }

    private static int[] rowOfSeven(Random random) {
        int[] row = new int[24];
        for (int i = 0; i < row.length; i++) {
            row[i] = i < 7 ? i : random.nextInt(7);
        }
        return row;
    }

    /** Between the seventh and another one, which changes now and then. */
    private static int[] rowToAndFro(Random random) {
        int[] row = new int[24];
        int other = 0;
        for (int i = 0; i < row.length; i++) {
            other = random.nextInt(4) == 0 ? random.nextInt(6) : other;
            row[i] = i < 7 ? i : i % 2 == 0 ? 6 : other;
        }
        return row;
    }

    private static int[] row(Random random, int length) {
        int[] some = random.ints(7, 0, 64).toArray();
        int unlike = 2 + random.nextInt(6);
        int[] row = new int[length];
        for (int i = 0; i < length; i++) {
            row[i] = some[random.nextInt(unlike)];
        }
        return row;
    }
}
