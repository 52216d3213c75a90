/**
 * The boundary cases of section 4 and of promise 14, a test for each sentence that names one: the
 * sentence stands ahead of its test.
 */
public final class ForesightBoundsTest {
    private static final Due due = new Due("ForesightBoundsTest");

    public static void main(String[] args) {
        boundsOfTheNumber();
        ofAllIfThereAreFewer();
        upToSevenUnlikeBlocks();
        unlikeAmongTheLatestAlone();
        rowIsSinceClear();
        rowIsOfAskedBlocksAlone();
        rowIsOfAllAskers();
        rowIsLongerThanForesight();
        rowIsBackWithTheShelf();
        fromAnEmptyRoom();
        servesUpToSpeedOrFewer();
        oneGoesIfTheRoomIsFull();
        spaceAboveAllBlocks();
        aTickBehindThePace();
        theNumberOfTheAskCounts();
        oneIsReadThroughInAStall();
        onlyOneIsReadThrough();
        theLongestRow();
        theSeventhComesInAStall();
        changesNothing();
        due.end();
    }

    private static ReadAhead asked(int space, int speed, int pace, int... blocks) {
        ReadAhead x = Bench.cleared(space, speed, pace);
        Bench.asks(x, 0, blocks);
        return x;
    }

    private static void least(String when, int want, ReadAhead x, int n) {
        due.is(when + ": foresight(" + n + ")", x.foresight(n), want);
    }

    /** "OUTSIDE: n not 0 .. 24" */
    private static void boundsOfTheNumber() {
        ReadAhead x = asked(4, 1, 4, 1, 2);
        int[] outside = {Integer.MIN_VALUE, -101, -1, 25, 200, Integer.MAX_VALUE};
        for (int n : outside) {
            least("two asks", ReadAhead.OUTSIDE, x, n);
        }
        least("none of two", 0, x, 0);
        least("one of two", 1, x, 1);
        least("the most", 2, x, 24);
    }

    /** "the latest n ASKS of THE ROW (of all, if there are fewer)": none at first. */
    private static void ofAllIfThereAreFewer() {
        for (int n = 0; n <= 24; n++) {
            least("a new one", 0, new ReadAhead(), n);
            least("one ask", Math.min(n, 1), asked(4, 1, 4, 9), n);
            least("three asks", Math.min(n, 3), asked(4, 1, 4, 9, 8, 7), n);
        }
    }

    /** "NOT: they are of more than 7 unlike BLOCKS" */
    private static void upToSevenUnlikeBlocks() {
        ReadAhead x = asked(12, 1, 4, 0, 10, 20, 30, 40, 50, 63);
        least("seven unlike ones", 6, x, 7);
        least("seven unlike ones", 6, x, 24);
        x.ask(0, 0);
        least("seven unlike ones of eight", 6, x, 8);
        x.ask(0, 1);
        least("eight unlike ones", ReadAhead.NOT, x, 9);
        least("outside goes ahead of not", ReadAhead.OUTSIDE, x, 25);
        least("outside goes ahead of not", ReadAhead.OUTSIDE, x, -1);
        least("none of eight unlike ones", 0, x, 0);
    }

    /** The same: "they" are the latest n, not all of the row. */
    private static void unlikeAmongTheLatestAlone() {
        ReadAhead x = asked(12, 1, 4, 1, 2, 3, 4, 5, 6, 7, 8);
        least("2 to 8, with a tick behind 4 and 8", 6, x, 7);
        least("1 to 8", ReadAhead.NOT, x, 8);
        for (int i = 0; i < 16; i++) {
            x.ask(0, 8);
        }
        least("1 to 8 once more", ReadAhead.NOT, x, 24);
        least("2 to 8", 6, x, 23);
        x.ask(0, 8);
        least("1 is the 25th now", 6, x, 24);
    }

    /** "THE ROW: the BLOCKS that were asked for since clear()" */
    private static void rowIsSinceClear() {
        ReadAhead x = asked(4, 1, 4, 1, 2, 3);
        x.clear(4, 1, 4);
        least("behind clear()", 0, x, 24);
        x.ask(0, 5);
        least("one ask behind clear()", 1, x, 24);
    }

    /** The same: what was refused was not asked for; what was fetched ahead was not either. */
    private static void rowIsOfAskedBlocksAlone() {
        ReadAhead x = asked(4, 1, 4, 1);
        x.ask(0, 64);
        x.ask(4, 2);
        x.kind(0, 1, 3);
        x.idle(3);
        least("one ask", 1, x, 24);
        x.ask(0, 1);
        x.idle(3);
        least("1 and 1", 1, x, 24);
    }

    /** The same: whoever asked. */
    private static void rowIsOfAllAskers() {
        ReadAhead x = Bench.cleared(4, 1, 4);
        for (int p = 0; p < 4; p++) {
            x.ask(p, 10 + p);
        }
        least("four askers", 4, x, 4);
        least("the latest two", 2, x, 2);
    }

    /** "the latest 200": the number of an ask goes on beyond them, and the latest 24 are told of. */
    private static void rowIsLongerThanForesight() {
        for (int pace = 1; pace <= 4; pace++) {
            ReadAhead x = Bench.cleared(4, 1, pace);
            for (int i = 1; i <= 260; i++) {
                x.ask(0, i % 2);
                if (i > 190) {
                    least("pace " + pace + ", " + i + " asks", (i - 1) % pace == 0 ? 1 : 2, x, 2);
                }
            }
        }
    }

    /** The same, with promise 16: the row is a part of "all" that a shelf has. */
    private static void rowIsBackWithTheShelf() {
        ReadAhead x = asked(4, 1, 2, 1, 2, 3);
        x.keep(0);
        Bench.asks(x, 0, 4, 5, 6, 7, 8);
        least("1 to 8", ReadAhead.NOT, x, 8);
        x.back(0);
        least("1 to 3", 2, x, 24);
        least("2 and 3, a tick between them", 1, x, 2);
        x.clear(1, 1, 1);
        x.back(0);
        least("1 to 3 again", 2, x, 24);
    }

    /** "from an empty ROOM on": what is in the room of the bench is nothing to it. */
    private static void fromAnEmptyRoom() {
        ReadAhead x = asked(4, 1, 4, 1, 1, 1, 1, 1);
        due.is("a hit", x.told(0, 1), 4);
        least("of an empty room", 1, x, 1);
        least("of an empty room", 1, x, 5);
    }

    /** "a plan serves in each TICK up to SPEED BLOCKS, any ones, one after the other (or fewer)" */
    private static void servesUpToSpeedOrFewer() {
        least("three in a stall", 1, asked(4, 3, 4, 1, 2, 3), 3);
        least("two in a stall, then one", 2, asked(4, 2, 4, 1, 2, 3), 3);
        least("one in a stall", 3, asked(4, 1, 4, 1, 2, 3), 3);
        least("no need to serve others", 1, asked(1, 3, 1, 1, 1, 1, 1), 4);
    }

    /** "each comes to THE ROOM, one that the plan tells going first if it is full" */
    private static void oneGoesIfTheRoomIsFull() {
        // 1 and 2 come, 3 is read through: 1 and 2 are there still.
        least("none need go", 3, asked(2, 1, 4, 1, 2, 3, 1, 2), 5);
        // 1 and 3 are there behind the fourth ask: in its tick 2 comes, 1 goes.
        least("1 goes in the tick of the pace", 3, asked(2, 1, 4, 1, 2, 3, 1, 3, 2), 6);
        // With one place 1, 2, 1, 2 cannot be had by fewer.
        least("one place", 3, asked(1, 1, 4, 1, 2, 1, 2), 4);
        least("two places", 2, asked(2, 1, 4, 1, 2, 1, 2), 4);
    }

    /** "with SPACE" (1 .. 12): more than seven blocks it never needs. */
    private static void spaceAboveAllBlocks() {
        for (int space = 7; space <= 12; space++) {
            ReadAhead x = asked(space, 1, 4, 0, 1, 2, 3, 4, 5, 6, 6, 5, 4, 3, 2, 1, 0);
            least("space " + space, 6, x, 14);
        }
    }

    /** "and one TICK passes more, if the number of that ASK ... is PACE, 2 PACE, and so on" */
    private static void aTickBehindThePace() {
        int[] row = {0, 1, 2, 3, 4, 5, 6};
        int[] want = {1, 4, 5, 6};
        for (int pace = 1; pace <= 4; pace++) {
            least("pace " + pace, want[pace - 1], asked(12, 1, pace, row), 7);
        }
    }

    /** "the number of that ASK (since clear(), from 1 on)": not its number among the latest n. */
    private static void theNumberOfTheAskCounts() {
        ReadAhead x = asked(4, 1, 4, 1, 2, 3);
        least("2, 3: asks 2 and 3", 2, x, 2);
        x.ask(0, 4);
        least("3, 4: asks 3 and 4", 2, x, 2);
        x.ask(0, 5);
        least("4, 5: asks 4 and 5, a tick between them", 1, x, 2);
        x.ask(0, 6);
        least("5, 6: asks 5 and 6", 2, x, 2);
    }

    /** "one of the BLOCKS that are served may be the one that is asked for, READ THROUGH: it does not come" */
    private static void oneIsReadThroughInAStall() {
        least("2 is read through, 1 stays", 2, asked(1, 1, 4, 1, 2, 1), 3);
        least("1 is read through, 2 comes", 1, asked(1, 2, 4, 1, 2), 2);
        least("1 is read through, 2 and 3 come", 1, asked(2, 3, 4, 1, 2, 3), 3);
    }

    /** The same: in a stall only the one that is asked for is read through. */
    private static void onlyOneIsReadThrough() {
        least("1 is read through, 2 comes, 3 finds no place", 2, asked(1, 3, 4, 1, 2, 3), 3);
        least("1 is read through, 2 comes, 3 has to wait for the pace", 1, asked(1, 3, 2, 1, 2, 3), 3);
    }

    /** The largest n, with the fewest places: of each four asks two stall, of the first four three. */
    private static void theLongestRow() {
        ReadAhead x = Bench.cleared(1, 1, 4);
        for (int i = 0; i < 24; i++) {
            x.ask(0, i % 2);
        }
        least("to and fro", 13, x, 24);
        x = Bench.cleared(1, 1, 1);
        for (int i = 0; i < 24; i++) {
            x.ask(0, 9 * (i % 7));
        }
        least("each comes in the tick behind the one before", 1, x, 24);
        x = Bench.cleared(7, 1, 4);
        for (int i = 0; i < 24; i++) {
            x.ask(0, 63 - i % 7);
        }
        least("seven, of which one comes behind the fourth ask", 6, x, 24);
    }

    /**
     * Seven unlike blocks, the most there may be, in one place: 0 to 3 stall; 4 comes in the tick
     * behind them, 5 and 6 stall; then the first of each two comes in the tick ahead, and 6 stalls.
     */
    private static void theSeventhComesInAStall() {
        ReadAhead x = asked(1, 1, 4, 0, 1, 2, 3, 4, 5, 6, 6, 0, 0, 6, 6, 1, 1, 6, 6, 2, 2, 6, 6, 3, 3, 6, 6);
        least("0 to 6, then 6 in turn", 10, x, 24);
    }

    /** It tells what could have been: the bench is as it was. */
    private static void changesNothing() {
        ReadAhead x = asked(2, 2, 2, 1, 2, 3, 1, 2);
        int before = x.digest();
        String room = Bench.room(x);
        x.foresight(5);
        x.foresight(25);
        due.is("digest()", x.digest(), before);
        due.same("room", Bench.room(x), room);
    }
}
