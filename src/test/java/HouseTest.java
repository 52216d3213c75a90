/** Promises 1 to 7, by hand: what is due stands in the document's words, worked out call by call. */
public final class HouseTest {
    private static final Due due = new Due("HouseTest");

    public static void main(String[] args) {
        aNewObject();
        clearBeginsAnew();
        clearForgetsWhatWasLearnt();
        shareIsBounded();
        shareProtects();
        whatMayNotComeIsWasted();
        kindIsTold();
        aheadWishes();
        stridedWishes();
        followerWishes();
        hintedWishes();
        cautiousReach();
        leftOnesGoFirst();
        leftIsLookedAtNow();
        nothingIsLeftAheadOfTheFirstAsk();
        leftOnesMustBeAllowedToGo();
        asksAndTicks();
        goingFreshIsWasted();
        waitingHasSixteenPlaces();
        idlePasses();
        due.end();
    }

    private static ReadAhead cleared(int space, int speed, int pace) {
        return Bench.cleared(space, speed, pace);
    }

    private static void asks(ReadAhead x, int p, int... blocks) {
        Bench.asks(x, p, blocks);
    }

    private static void room(String when, ReadAhead x, String want) {
        due.same("room " + when, Bench.room(x), want);
    }

    private static void line(String when, ReadAhead x, String want) {
        due.same("waiting " + when, Bench.line(x), want);
    }

    private static void aNewObject() {
        ReadAhead x = new ReadAhead();
        int[] house = {0, 0, 4, 1, 0, 0, 0, 2};
        for (int what = 0; what < 8; what++) {
            due.is("new: house(" + what + ")", x.house(what), house[what]);
        }
        for (int p = 0; p < 4; p++) {
            for (int what = 0; what < 10; what++) {
                due.is("new: told(" + p + ", " + what + ")", x.told(p, what), 0);
            }
            for (int block = 0; block < 64; block++) {
                due.is("new: follows(" + p + ", " + block + ")", x.follows(p, block), ReadAhead.NONE);
            }
            due.is("new: reach(" + p + ")", x.reach(p), 0);
        }
        due.is("new: room(0, 0)", x.room(0, 0), ReadAhead.NONE);
        due.is("new: waiting(0, 0)", x.waiting(0, 0), ReadAhead.NONE);
        due.is("new: foresight(24)", x.foresight(24), 0);
        due.is("new: back(0)", x.back(0), ReadAhead.NOT);
        due.is("new: back(1)", x.back(1), ReadAhead.NOT);
        for (int p = 0; p < 4; p++) {
            due.is("new: kind(" + p + ", 0, 0)", x.kind(p, 0, 0), 0);
        }
        due.same("new: as behind clear(4, 1, 2)", View.of(x), View.of(cleared(4, 1, 2)));
    }

    private static void clearBeginsAnew() {
        ReadAhead x = new ReadAhead();
        x.share(0, 2);
        x.kind(0, 1, 5);
        x.kind(1, 4, 3);
        x.hint(1, 0, 20);
        asks(x, 0, 5, 6, 40);
        asks(x, 1, 3, 9);
        x.keep(0);
        due.is("clear(12, 3, 4)", x.clear(12, 3, 4), 5);
        due.same("clear(12, 3, 4)", View.of(x), View.of(cleared(12, 3, 4)));
        due.is("clear: kind of 0", x.kind(0, 0, 0), 0);
        due.is("clear: kind of 1", x.kind(1, 4, 3), 0);
        asks(x, 1, 9);
        line("behind a span that clear() took away", x, "");
        due.is("clear(1, 1, 1)", x.clear(1, 1, 1), 1);
        due.is("clear: house(2)", x.house(2), 1);
        due.is("clear: house(3)", x.house(3), 1);
        due.is("clear: house(7)", x.house(7), 1);
        due.is("clear: the shelf is still there", x.back(0), 1);
        due.is("clear: asks that came back", x.clear(4, 1, 2), 5);
    }

    private static void clearForgetsWhatWasLearnt() {
        ReadAhead x = cleared(4, 1, 3);
        asks(x, 0, 10, 13);
        x.clear(4, 1, 3);
        x.kind(0, 2, 2);
        asks(x, 0, 16);
        due.is("clear: nothing followed", x.follows(0, 13), ReadAhead.NONE);
        asks(x, 0, 19);
        line("behind the first step since clear()", x, "");
        due.is("clear: no pace yet", x.house(1), 2);
        asks(x, 0, 22);
        due.is("clear: the third ask, and one tick more", x.house(1), 4);
    }

    private static void shareIsBounded() {
        ReadAhead x = cleared(12, 1, 4);
        due.is("share(0, 12)", x.share(0, 12), 0);
        due.is("share(1, 1) above all", x.share(1, 1), ReadAhead.NOT);
        due.is("share(1, 0)", x.share(1, 0), 0);
        due.is("share(0, 12) again", x.share(0, 12), 12);
        due.is("share(0, 5)", x.share(0, 5), 12);
        due.is("share(3, 7)", x.share(3, 7), 0);
        due.is("share(3, 8) above all", x.share(3, 8), ReadAhead.NOT);
        due.is("told(3, 8)", x.told(3, 8), 7);
        due.is("told(-1, 8)", x.told(-1, 8), 12);
        due.is("share(0, -1)", x.share(0, -1), ReadAhead.OUTSIDE);
        due.is("share(0, 13)", x.share(0, 13), ReadAhead.OUTSIDE);
        due.is("share(4, 13)", x.share(4, 13), ReadAhead.UNKNOWN);
        due.is("share(-1, 13)", x.share(-1, 13), ReadAhead.UNKNOWN);
        x.clear(3, 1, 4);
        due.is("share(0, 13) is outside ahead of not", x.share(0, 13), ReadAhead.OUTSIDE);
        due.is("share(0, 4)", x.share(0, 4), ReadAhead.NOT);
        due.is("share(0, 3)", x.share(0, 3), 0);
    }

    private static void shareProtects() {
        ReadAhead x = cleared(2, 1, 4);
        x.share(0, 2);
        asks(x, 0, 1, 2);
        due.is("ask(1, 10) where none may go", x.ask(1, 10), 1);
        room("behind a read through", x, "1/0/0/0 2/0/0/0");
        due.is("read through", x.told(1, 6), 1);
        due.is("read through is not wasted", x.told(1, 4), 0);
        due.is("the arm went there", x.house(0), 10);
        x.share(0, 1);
        asks(x, 1, 20);
        room("with one above the share", x, "2/0/0/0 20/1/0/0");
        asks(x, 1, 21);
        room("where only its own may go", x, "2/0/0/0 21/1/0/0");
        asks(x, 0, 30);
        room("where its own and one above a share may go", x, "21/1/0/0 30/0/0/0");
        asks(x, 0, 31);
        room("the oldest of both", x, "30/0/0/0 31/0/0/0");
        due.is("in the room of 0", x.told(0, 7), 2);
        due.is("in the room of 1", x.told(1, 7), 0);
    }

    private static void whatMayNotComeIsWasted() {
        ReadAhead x = cleared(2, 1, 1);
        x.share(0, 2);
        asks(x, 0, 1, 2);
        x.kind(1, 1, 3);
        asks(x, 1, 10);
        due.is("served ahead", x.told(1, 3), 1);
        due.is("wasted", x.told(1, 4), 1);
        line("behind one that did not come", x, "12/1 13/1");
        due.is("idle(1)", x.idle(1), 0);
        due.is("wasted", x.told(1, 4), 2);
        due.is("the arm", x.house(0), 12);
        x.kind(1, 5, 8);
        due.is("idle(3)", x.idle(3), 0);
        due.is("served ahead", x.told(1, 3), 3);
        due.is("half of the reach", x.reach(1), 4);
        due.is("of 0 nothing was wasted", x.told(0, 4), 0);
        room("as it was", x, "1/0/0/0 2/0/0/0");
    }

    private static void kindIsTold() {
        ReadAhead x = new ReadAhead();
        for (int kind = 1; kind <= 5; kind++) {
            due.is("kind(3, " + kind + ", 8)", x.kind(3, kind, 8), kind - 1);
            due.is("reach(3)", x.reach(3), 8);
            due.is("kind(3, " + kind + ", 0)", x.kind(3, kind, 0), kind);
            due.is("reach(3)", x.reach(3), 0);
        }
        due.is("kind(0, -1, 0)", x.kind(0, -1, 0), ReadAhead.OUTSIDE);
        due.is("kind(0, 6, 0)", x.kind(0, 6, 0), ReadAhead.OUTSIDE);
        due.is("kind(0, 0, -1)", x.kind(0, 0, -1), ReadAhead.OUTSIDE);
        due.is("kind(0, 0, 9)", x.kind(0, 0, 9), ReadAhead.OUTSIDE);
        due.is("kind(4, 6, 9)", x.kind(4, 6, 9), ReadAhead.UNKNOWN);
        due.is("kind(-1, 0, 0)", x.kind(-1, 0, 0), ReadAhead.UNKNOWN);
        due.is("kind(3, 0, 2)", x.kind(3, 0, 2), 5);
        due.is("reach(3) of a plain one", x.reach(3), 2);
        asks(x, 3, 5, 6, 7);
        line("for a plain one", x, "");
    }

    private static void aheadWishes() {
        ReadAhead x = cleared(4, 1, 4);
        x.kind(0, 1, 3);
        asks(x, 0, 10);
        line("behind 10", x, "11/0 12/0 13/0");
        asks(x, 0, 61);
        line("at the end of the blocks", x, "11/0 12/0 13/0 62/0 63/0");
        x.kind(1, 1, 4);
        asks(x, 1, 9);
        line("10 is in the room, the others wait already", x, "11/0 12/0 13/0 62/0 63/0");
        x.kind(0, 1, 0);
        asks(x, 0, 30);
        line("behind a tick, with no reach", x, "11/0 12/0 62/0 63/0");
    }

    private static ReadAhead strided(int pace, int reach) {
        ReadAhead x = cleared(12, 1, pace);
        x.kind(0, 2, reach);
        return x;
    }

    private static void stridedWishes() {
        ReadAhead x = strided(4, 2);
        asks(x, 0, 10);
        line("behind no step", x, "");
        asks(x, 0, 13);
        line("behind one step", x, "");
        asks(x, 0, 16);
        line("behind two like steps", x, "19/0 22/0");
        x = strided(3, 2);
        asks(x, 0, 10, 13);
        asks(x, 1, 0);
        asks(x, 0, 16);
        line("another's ask is no step", x, "19/0 22/0");
        x = strided(4, 8);
        asks(x, 0, 10, 13, 17);
        line("by unlike steps", x, "");
        x = strided(4, 8);
        asks(x, 0, 7, 7, 7);
        line("by no step", x, "");
        x = cleared(1, 1, 4);
        x.share(1, 1);
        x.kind(0, 2, 8);
        asks(x, 1, 1);
        asks(x, 0, 7, 7, 7);
        due.is("read through", x.told(0, 6), 3);
        due.is("by no step nothing is fetched, though 7 is not in the room", x.told(0, 3), 0);
        line("by no step", x, "");
        x = strided(4, 3);
        asks(x, 0, 47, 52, 57);
        line("67 and 72 are no blocks", x, "62/0");
        x = cleared(12, 1, 4);
        asks(x, 0, 12, 8);
        x.kind(0, 2, 3);
        asks(x, 0, 4);
        line("by falling steps that were known ahead of kind(), down to 0", x, "0/0");
    }

    private static void followerWishes() {
        ReadAhead x = cleared(1, 1, 4);
        asks(x, 0, 1, 2, 3);
        x.kind(0, 3, 2);
        due.is("follows(0, 1)", x.follows(0, 1), 2);
        due.is("follows(0, 3)", x.follows(0, 3), ReadAhead.NONE);
        due.is("follows(1, 1)", x.follows(1, 1), ReadAhead.NONE);
        asks(x, 0, 1);
        due.is("follows(0, 3)", x.follows(0, 3), 1);
        room("behind the pace", x, "2/0/1/0");
        line("what followed 2", x, "3/0");
        x.clear(1, 1, 4);
        x.kind(0, 3, 8);
        asks(x, 0, 1, 5, 1);
        line("round and round", x, "5/0");
        due.is("follows(0, 1)", x.follows(0, 1), 5);
        asks(x, 0, 9);
        due.is("follows(0, 1) the latest time", x.follows(0, 1), 9);
        due.is("follows(0, 5)", x.follows(0, 5), 1);
        line("behind 9 nothing is known", x, "");
        x.clear(3, 1, 4);
        x.kind(0, 3, 8);
        asks(x, 0, 5, 5);
        due.is("follows(0, 5) itself", x.follows(0, 5), 5);
        line("itself is in the room", x, "");
        x.clear(1, 1, 3);
        asks(x, 0, 40, 41, 42, 43);
        x.kind(0, 3, 2);
        asks(x, 0, 40);
        line("no more than its reach", x, "41/0 42/0");
    }

    private static void hintedWishes() {
        ReadAhead x = cleared(6, 1, 4);
        x.kind(2, 4, 3);
        asks(x, 2, 6);
        line("without a span", x, "");
        due.is("hint(2, 5, 9)", x.hint(2, 5, 9), 1);
        line("hint() alone wishes nothing", x, "");
        asks(x, 2, 5);
        line("6 is in the room", x, "7/2 8/2");
        asks(x, 2, 8);
        line("no further than the span", x, "7/2 9/2");
        x.clear(6, 1, 4);
        x.kind(2, 4, 8);
        x.hint(2, 5, 9);
        asks(x, 2, 4, 10, 9);
        line("outside of the span, and at its end", x, "");
        asks(x, 0, 60);
        asks(x, 2, 7);
        line("in the span", x, "8/2");
        x.kind(2, 4, 8);
        asks(x, 2, 6);
        line("kind() took the span away", x, "8/2");
        due.is("hint(2, 0, 63)", x.hint(2, 0, 63), 1);
        due.is("hint(2, 63, 63)", x.hint(2, 63, 63), 1);
        due.is("hint(2, -1, 5)", x.hint(2, -1, 5), ReadAhead.OUTSIDE);
        due.is("hint(2, 0, 64)", x.hint(2, 0, 64), ReadAhead.OUTSIDE);
        due.is("hint(2, 64, 64)", x.hint(2, 64, 64), ReadAhead.OUTSIDE);
        due.is("hint(2, 6, 5)", x.hint(2, 6, 5), ReadAhead.OUTSIDE);
        due.is("hint(4, 6, 5)", x.hint(4, 6, 5), ReadAhead.UNKNOWN);
        due.is("hint(-1, 0, 0)", x.hint(-1, 0, 0), ReadAhead.UNKNOWN);
        due.is("hint(0, 6, 5) is outside ahead of not", x.hint(0, 6, 5), ReadAhead.OUTSIDE);
        for (int kind = 0; kind <= 5; kind++) {
            x.kind(0, kind, 1);
            due.is("hint(0, 5, 6) of kind " + kind, x.hint(0, 5, 6), kind == 4 ? 1 : ReadAhead.NOT);
        }
    }

    private static void cautiousReach() {
        ReadAhead x = cleared(3, 1, 1);
        x.kind(0, 5, 7);
        asks(x, 0, 0);
        due.is("reach(0)", x.reach(0), 7);
        asks(x, 0, 1);
        due.is("reach(0), one was saved", x.reach(0), 8);
        asks(x, 0, 2);
        due.is("reach(0), no more than 8", x.reach(0), 8);
        due.is("saved", x.told(0, 5), 2);
        asks(x, 0, 30, 31);
        due.is("saved", x.told(0, 5), 3);
        due.is("wasted", x.told(0, 4), 1);
        due.is("reach(0), half of 8", x.reach(0), 4);
        x.kind(0, 5, 1);
        due.is("reach(0), begun anew", x.reach(0), 1);
        x.idle(1);
        due.is("reach(0), one goes that was not fresh", x.reach(0), 1);
        x.idle(1);
        due.is("wasted", x.told(0, 4), 1);
        x.idle(1);
        due.is("wasted", x.told(0, 4), 2);
        due.is("reach(0), half of 1", x.reach(0), 0);
        x.idle(1);
        due.is("wasted", x.told(0, 4), 3);
        due.is("reach(0), half of 0", x.reach(0), 0);
        x.kind(0, 1, 6);
        x.idle(1);
        due.is("wasted", x.told(0, 4), 4);
        due.is("reach(0) of one that is not cautious", x.reach(0), 6);
    }

    private static void leftOnesGoFirst() {
        ReadAhead x = cleared(3, 1, 4);
        asks(x, 1, 50);
        x.kind(2, 4, 0);
        x.hint(2, 5, 9);
        asks(x, 2, 6, 8);
        room("with 6 left", x, "50/1/0/0 6/2/0/1 8/2/0/0");
        asks(x, 3, 20);
        room("the left one goes ahead of the oldest", x, "50/1/0/0 8/2/0/0 20/3/0/0");
        asks(x, 2, 60);
        room("8 was not left ahead of this ask", x, "8/2/0/1 20/3/0/0 60/2/0/0");
        x.clear(3, 1, 4);
        x.kind(2, 4, 0);
        x.hint(2, 0, 9);
        asks(x, 2, 3, 1, 5);
        room("with two left", x, "3/2/0/1 1/2/0/1 5/2/0/0");
        asks(x, 0, 40);
        room("the oldest of them goes", x, "1/2/0/1 5/2/0/0 40/0/0/0");
    }

    private static void leftIsLookedAtNow() {
        ReadAhead x = cleared(3, 1, 4);
        asks(x, 2, 8, 60);
        x.kind(2, 4, 0);
        room("without a span", x, "8/2/0/0 60/2/0/0");
        x.hint(2, 0, 63);
        room("in the span, and below the latest", x, "8/2/0/1 60/2/0/0");
        x.hint(2, 20, 40);
        room("outside of the span", x, "8/2/0/0 60/2/0/0");
        x.hint(2, 8, 8);
        room("the latest is outside of the span", x, "8/2/0/1 60/2/0/0");
        x.hint(2, 7, 60);
        asks(x, 2, 8);
        room("the latest is 8", x, "60/2/0/0 8/2/0/0");
        x.hint(2, 9, 60);
        room("60 is in the span, 8 is not", x, "60/2/0/1 8/2/0/0");
        x.kind(2, 4, 0);
        room("kind() took the span away", x, "60/2/0/0 8/2/0/0");
        asks(x, 3, 30);
        x.kind(3, 4, 0);
        x.hint(3, 0, 63);
        asks(x, 3, 8);
        room("another's block", x, "60/2/0/0 30/3/0/0 8/2/0/0");
    }

    /** 5 comes while it is asked for: 2 never asked ahead of that, so nothing of 2 is left yet. */
    private static void nothingIsLeftAheadOfTheFirstAsk() {
        ReadAhead x = cleared(2, 2, 4);
        x.kind(0, 1, 2);
        asks(x, 0, 10);
        x.kind(2, 4, 0);
        x.hint(2, 0, 9);
        asks(x, 2, 5);
        room("the oldest went", x, "5/2/0/0 11/0/1/0");
    }

    private static void leftOnesMustBeAllowedToGo() {
        ReadAhead x = cleared(2, 1, 4);
        x.share(2, 1);
        x.kind(2, 4, 0);
        x.hint(2, 0, 9);
        asks(x, 2, 5);
        asks(x, 1, 50);
        asks(x, 2, 50);
        room("with 5 left", x, "5/2/0/1 50/1/0/0");
        asks(x, 3, 30);
        room("5 is within a share", x, "5/2/0/1 30/3/0/0");
    }

    private static void asksAndTicks() {
        ReadAhead x = cleared(4, 2, 4);
        x.kind(0, 1, 3);
        due.is("ask(0, 10)", x.ask(0, 10), 1);
        line("behind 10", x, "11/0 12/0 13/0");
        due.is("ask(1, 12), which waits for 0", x.ask(1, 12), 1);
        room("12 came for 1, then the lesser of two near ones", x, "10/0/0/0 12/1/0/0 11/0/1/0");
        line("one is left", x, "13/0");
        due.is("the way of the arm", x.house(6), 13);
        due.is("ask(1, 11)", x.ask(1, 11), 0);
        due.is("hits of 1", x.told(1, 1), 1);
        due.is("saved for 1", x.told(1, 5), 0);
        due.is("saved for 0", x.told(0, 5), 1);
        due.is("reach(0) of one that is not cautious", x.reach(0), 3);
        due.is("ask(1, 11) once more", x.ask(1, 11), 0);
        due.is("saved once", x.told(-1, 5), 1);
        room("behind the pace", x, "10/0/0/0 12/1/0/0 11/0/0/0 13/0/1/0");
        due.is("ask(0, 10)", x.ask(0, 10), 0);
        room("10 is the youngest", x, "12/1/0/0 11/0/0/0 13/0/1/0 10/0/0/0");
        due.is("ticks", x.house(1), 3);
        due.is("the way of the arm", x.house(6), 15);
        due.is("stalls", x.told(-1, 2), 2);
        due.is("served ahead for 0", x.told(0, 3), 2);
        due.is("ask(4, 64)", x.ask(4, 64), ReadAhead.UNKNOWN);
        due.is("ask(-1, 0)", x.ask(-1, 0), ReadAhead.UNKNOWN);
        due.is("ask(0, 64)", x.ask(0, 64), ReadAhead.OUTSIDE);
        due.is("ask(0, -1)", x.ask(0, -1), ReadAhead.OUTSIDE);
        due.is("asks", x.told(-1, 0), 5);
    }

    private static void goingFreshIsWasted() {
        ReadAhead x = cleared(2, 1, 4);
        x.kind(0, 1, 1);
        asks(x, 0, 10);
        x.idle(1);
        room("with 11 fresh", x, "10/0/0/0 11/0/1/0");
        asks(x, 1, 30, 31);
        room("both went", x, "30/1/0/0 31/1/0/0");
        due.is("wasted for 0", x.told(0, 4), 1);
        due.is("wasted for 1", x.told(1, 4), 0);
        due.is("ask(2, 11), no more in the room", x.ask(2, 11), 1);
        x.kind(1, 1, 1);
        asks(x, 1, 20);
        x.idle(1);
        asks(x, 1, 50, 52);
        due.is("wasted for 0", x.told(0, 4), 1);
        due.is("wasted for 1", x.told(1, 4), 1);
        due.is("saved", x.told(-1, 5), 0);
    }

    private static void waitingHasSixteenPlaces() {
        ReadAhead x = cleared(4, 1, 4);
        for (int p = 0; p < 3; p++) {
            x.kind(p, 1, p == 1 ? 7 : 8);
        }
        asks(x, 0, 10);
        asks(x, 1, 30);
        asks(x, 2, 50);
        line("up to 16", x, "11/0 12/0 13/0 14/0 15/0 16/0 17/0 18/0 31/1 32/1 33/1 34/1 35/1 36/1 37/1 51/2");
        due.is("waiting", x.house(5), 16);
        due.is("waiting for 0", x.told(0, 9), 8);
        due.is("waiting for 1", x.told(1, 9), 7);
        due.is("waiting for 2", x.told(2, 9), 1);
        due.is("waiting for all", x.told(-1, 9), 16);
        due.is("waiting(15, 0)", x.waiting(15, 0), 51);
        due.is("waiting(16, 0)", x.waiting(16, 0), ReadAhead.NONE);
    }

    private static void idlePasses() {
        ReadAhead x = cleared(12, 3, 4);
        x.kind(0, 1, 7);
        asks(x, 0, 20);
        due.is("idle(0)", x.idle(0), 0);
        due.is("idle(1)", x.idle(1), 3);
        line("the nearest ones went", x, "24/0 25/0 26/0 27/0");
        due.is("idle(64)", x.idle(64), 4);
        due.is("ticks", x.house(1), 66);
        due.is("idle(1)", x.idle(1), 0);
        due.is("idle(-1)", x.idle(-1), ReadAhead.OUTSIDE);
        due.is("idle(65)", x.idle(65), ReadAhead.OUTSIDE);
        due.is("ticks", x.house(1), 67);
        asks(x, 0, 20, 21);
        due.is("idle ticks are no asks", x.house(1), 67);
        asks(x, 0, 22);
        due.is("the fourth ask", x.house(1), 68);
    }
}
