/**
 * The boundary cases of the document's "Terms", sections 1 to 3, a test for each sentence that names
 * one: the sentence stands ahead of its test. (Section 4 is in ForesightBoundsTest.)
 */
public final class TermsBoundsTest {
    private static final Due due = new Due("TermsBoundsTest");

    public static void main(String[] args) {
        sectionOne();
        sectionTwo();
        sectionThree();
        due.end();
    }

    private static void sectionOne() {
        blocksAndAskersHaveEnds();
        roomKeepsUpToSpace();
        ownerIsForWhomItWasFetched();
        freshTillItIsAskedFor();
        ageIsByComingAndHits();
        wishesMakeNothingYounger();
        sharesMayBeAllOfSpace();
        waitingIsUpToSixteen();
        whatFindsNoPlaceIsForgotten();
        aPlaceIsFreeForTheSameAsk();
        armIsAtFirstAtZero();
        speedIsHowManyAreServed();
    }

    private static void sectionTwo() {
        demandedIsServedAheadOfNearer();
        aTickWithNobodyWaiting();
        fewerWaitThanSpeed();
        ofTwoAsNearTheLesser();
        theOneAtTheArmIsNearest();
        noneGoesBeforeTheRoomIsFull();
        aShareIsKeptToTheLastOne();
        itsOwnMayGoWithinItsShare();
        leftOnesAheadOfTheOldest();
        leftOnesThatMayNotGo();
        readThroughCountsAsServed();
        readThroughStallsEachTime();
        fetchedThatDoesNotComeIsWasted();
        wastedOnlyIfFresh();
        demandedMayGoInItsOwnTick();
        savedOnceAndForItsOwner();
        askedWhileItWaits();
        wishesPassByWhatIsThere();
        wishesComeAheadOfThePace();
        paceCountsEachAsk();
    }

    private static void sectionThree() {
        noReachNoWishes();
        plainWishesNothing();
        reachOfEight();
        aheadEndsAtTheLastBlock();
        stridedNeedsTwoLikeSteps();
        stridedPassesTheEnds();
        followerEndsWhereNoneIsKnown();
        followerGoesRound();
        hintedFromEndToEnd();
        halfIsCutTowardsZero();
        oneMoreUpToEight();
        cautionChangesAheadOfWishes();
        knownWhateverTheKind();
        kindBeginsReachAnew();
        kindTakesTheSpanAway();
        leftAtTheEndsOfTheSpan();
        leftOnlyByItsOwner();
        leftByTheAskBefore();
    }

    private static ReadAhead cleared(int space, int speed, int pace) {
        return Bench.cleared(space, speed, pace);
    }

    private static void asks(ReadAhead x, int p, int... blocks) {
        Bench.asks(x, p, blocks);
    }

    private static void room(String when, ReadAhead x, String want) {
        due.same("room: " + when, Bench.room(x), want);
    }

    private static void line(String when, ReadAhead x, String want) {
        due.same("waiting: " + when, Bench.line(x), want);
    }

    // ---- section 1

    /** "BLOCKS 0 .. 63; ASKERS 0 .. 3." */
    private static void blocksAndAskersHaveEnds() {
        for (int p = -1; p <= 4; p++) {
            for (int block : new int[] {-1, 0, 63, 64}) {
                boolean isAsker = p >= 0 && p <= 3;
                boolean isBlock = block >= 0 && block <= 63;
                int want = !isAsker ? ReadAhead.UNKNOWN : !isBlock ? ReadAhead.OUTSIDE : 1;
                due.is("ask(" + p + ", " + block + ") of a new one", new ReadAhead().ask(p, block), want);
            }
        }
    }

    /** "THE ROOM keeps up to SPACE BLOCKS (1 .. 12; 4 at first)." */
    private static void roomKeepsUpToSpace() {
        for (int space = 1; space <= 12; space++) {
            ReadAhead x = cleared(space, 1, 4);
            for (int block = 0; block <= space; block++) {
                x.ask(0, block);
                due.is("space " + space + ", in the room", x.house(4), Math.min(block + 1, space));
            }
            due.is("space " + space + ": only 0 is gone", x.room(0, 0), 1);
            due.is("space " + space + ": the youngest", x.room(space - 1, 0), space);
        }
        ReadAhead x = new ReadAhead();
        asks(x, 0, 1, 2, 3, 4, 5);
        room("of a new one", x, "2/0/0/0 3/0/0/0 4/0/0/0 5/0/0/0");
    }

    /** "Each BLOCK in THE ROOM has an OWNER, the ASKER for whom it was fetched" */
    private static void ownerIsForWhomItWasFetched() {
        ReadAhead x = cleared(4, 1, 4);
        x.kind(0, 1, 2);
        asks(x, 0, 10);
        asks(x, 1, 11);
        room("11 waited for 0, and came for 1", x, "10/0/0/0 11/1/0/0");
        x.idle(1);
        asks(x, 3, 12);
        room("12 came for 0, and was a hit of 3", x, "10/0/0/0 11/1/0/0 12/0/0/0");
    }

    /** "whether it is FRESH (fetched ahead, and not asked for since)" */
    private static void freshTillItIsAskedFor() {
        ReadAhead x = cleared(4, 1, 4);
        x.kind(0, 1, 1);
        asks(x, 0, 10);
        x.idle(1);
        room("fetched ahead", x, "10/0/0/0 11/0/1/0");
        asks(x, 2, 11);
        room("asked for, by another one", x, "10/0/0/0 11/0/0/0");
    }

    /** "AGE: of two the one that came, or was a HIT, longer ago is the older one" */
    private static void ageIsByComingAndHits() {
        ReadAhead x = cleared(3, 1, 4);
        asks(x, 0, 1, 2, 3);
        asks(x, 1, 3);
        room("the youngest was a hit", x, "1/0/0/0 2/0/0/0 3/0/0/0");
        asks(x, 1, 1);
        room("the oldest was a hit", x, "2/0/0/0 3/0/0/0 1/0/0/0");
        asks(x, 1, 3);
        room("the middle one was a hit", x, "2/0/0/0 1/0/0/0 3/0/0/0");
        asks(x, 0, 4);
        room("the oldest one goes", x, "1/0/0/0 3/0/0/0 4/0/0/0");
    }

    /** The same: a wish for a block that is in the room is no hit. */
    private static void wishesMakeNothingYounger() {
        ReadAhead x = cleared(3, 1, 4);
        asks(x, 0, 6, 20);
        x.kind(0, 1, 1);
        asks(x, 0, 5);
        room("6 was wished for", x, "6/0/0/0 20/0/0/0 5/0/0/0");
    }

    /** "Each ASKER has a SHARE (0 at first); SHARES are in all not above SPACE." */
    private static void sharesMayBeAllOfSpace() {
        ReadAhead x = new ReadAhead();
        for (int p = 0; p < 4; p++) {
            due.is("share(" + p + ", 1), of 4 in all", x.share(p, 1), 0);
        }
        for (int p = 0; p < 4; p++) {
            due.is("share(" + p + ", 2), of 5 in all", x.share(p, 2), ReadAhead.NOT);
        }
        due.is("all of space", x.told(ReadAhead.NONE, 8), 4);
    }

    /** "THE WAITING are up to 16 BLOCKS, each for an ASKER, in the order in which they came." */
    private static void waitingIsUpToSixteen() {
        ReadAhead x = cleared(4, 1, 4);
        x.kind(3, 1, 8);
        x.kind(0, 1, 8);
        asks(x, 3, 40);
        asks(x, 0, 10);
        line("16, the later ones behind the earlier ones", x, Bench.run(41, 48, 3) + " " + Bench.run(11, 18, 0));
        x.kind(1, 1, 1);
        asks(x, 1, 25);
        due.is("a 17th finds no place", x.house(5), 16);
        due.is("a 17th is for nobody", x.told(1, 9), 0);
    }

    /** "comes to wait, if there is place": a wish that found none is not made good later. */
    private static void whatFindsNoPlaceIsForgotten() {
        ReadAhead x = cleared(12, 1, 4);
        x.kind(0, 1, 8);
        asks(x, 0, 10, 30);
        x.kind(1, 1, 8);
        asks(x, 1, 50);
        due.is("16 wait", x.house(5), 16);
        due.is("idle(1)", x.idle(1), 1);
        due.is("15 wait", x.house(5), 15);
        x.idle(64);
        due.is("nobody waits", x.house(5), 0);
        due.is("nothing was served for 1", x.told(1, 3), 0);
    }

    /** The same: one that is demanded "waits no more" before the wishes are told. */
    private static void aPlaceIsFreeForTheSameAsk() {
        ReadAhead x = cleared(4, 1, 4);
        x.kind(0, 1, 8);
        x.kind(1, 1, 8);
        x.kind(2, 1, 8);
        asks(x, 0, 0);
        asks(x, 1, 20);
        due.is("16 wait", x.house(5), 16);
        asks(x, 2, 24);
        line("29 has the place of 24, 30 has none", x,
                Bench.run(1, 8, 0) + " " + Bench.run(21, 23, 1) + " " + Bench.run(25, 28, 1) + " 29/2");
    }

    /** "THE ARM is at a BLOCK (0 at first)." */
    private static void armIsAtFirstAtZero() {
        ReadAhead x = new ReadAhead();
        due.is("the arm", x.house(0), 0);
        asks(x, 0, 0);
        due.is("no way to 0", x.house(6), 0);
        asks(x, 0, 63);
        due.is("the way to the last block", x.house(6), 63);
        asks(x, 0, 0);
        due.is("a hit moves nothing", x.house(0), 63);
        x.clear(1, 1, 4);
        asks(x, 0, 63, 0);
        due.is("there and back", x.house(6), 126);
        due.is("the arm is back", x.house(0), 0);
    }

    /** "SPEED (1 .. 3; 1 at first): how many BLOCKS are served in a TICK." */
    private static void speedIsHowManyAreServed() {
        for (int speed = 1; speed <= 3; speed++) {
            ReadAhead x = cleared(12, speed, 4);
            x.kind(0, 1, 8);
            asks(x, 0, 10);
            due.is("speed " + speed + ": idle(1)", x.idle(1), speed);
            due.is("speed " + speed + ": idle(1) again", x.idle(1), speed);
            due.is("speed " + speed + ": waiting", x.house(5), 8 - 2 * speed);
        }
        ReadAhead x = new ReadAhead();
        x.kind(0, 1, 3);
        asks(x, 0, 10);
        due.is("of a new one: idle(1)", x.idle(1), 1);
    }

    // ---- section 2

    /** "if a BLOCK is DEMANDED and not yet served, it is served; else ... the one nearest to THE ARM" */
    private static void demandedIsServedAheadOfNearer() {
        ReadAhead x = cleared(4, 1, 4);
        x.kind(0, 1, 3);
        asks(x, 0, 10);
        asks(x, 1, 60);
        room("speed 1: 60 alone", x, "10/0/0/0 60/1/0/0");
        x = cleared(4, 3, 4);
        x.kind(0, 1, 3);
        asks(x, 0, 10);
        asks(x, 1, 60);
        room("speed 3: 60, then from there on 13, 12", x, "10/0/0/0 60/1/0/0 13/0/1/0 12/0/1/0");
        due.is("the way: 10, 50, 47, 1", x.house(6), 108);
    }

    /** "else, if there are WAITING ones": else nothing is served, and the tick has passed. */
    private static void aTickWithNobodyWaiting() {
        ReadAhead x = cleared(4, 3, 4);
        asks(x, 0, 10);
        due.is("idle(1)", x.idle(1), 0);
        due.is("ticks", x.house(1), 2);
        due.is("the arm", x.house(0), 10);
        due.is("the way", x.house(6), 10);
    }

    /** The same, in the midst of a tick. */
    private static void fewerWaitThanSpeed() {
        ReadAhead x = cleared(4, 3, 4);
        x.kind(0, 1, 2);
        asks(x, 0, 10);
        due.is("two of three", x.idle(1), 2);
        due.is("one tick", x.house(1), 2);
        due.is("none of three", x.idle(1), 0);
    }

    /** "the one nearest to THE ARM (by the size of the difference; of two the lesser)" */
    private static void ofTwoAsNearTheLesser() {
        ReadAhead x = cleared(1, 1, 4);
        x.kind(0, 1, 1);
        x.kind(1, 1, 1);
        asks(x, 0, 32);
        asks(x, 1, 30);
        asks(x, 2, 32);
        line("33 came to wait first", x, "33/0 31/1");
        x.idle(1);
        line("but 31 is the lesser of two", x, "33/0");
        x = cleared(1, 1, 4);
        x.kind(1, 1, 1);
        x.kind(0, 1, 1);
        asks(x, 1, 30);
        asks(x, 0, 33);
        asks(x, 2, 33);
        x.idle(1);
        line("34 is nearer than 31, though the greater one", x, "31/1");
    }

    /** The same: a difference of 0 is the least. 10 never comes, so it is wished for where the arm is. */
    private static void theOneAtTheArmIsNearest() {
        ReadAhead x = cleared(1, 1, 4);
        x.share(0, 1);
        x.kind(0, 1, 1);
        x.kind(1, 3, 8);
        asks(x, 0, 8);
        asks(x, 1, 10, 10);
        line("10 waits once", x, "9/0 10/1");
        int way = x.house(6);
        due.is("it does not come", x.idle(1), 0);
        line("10 was served", x, "9/0");
        due.is("no way", x.house(6), way);
    }

    /** "if THE ROOM has SPACE BLOCKS, one goes first": else none, not even a LEFT one. */
    private static void noneGoesBeforeTheRoomIsFull() {
        ReadAhead x = cleared(3, 1, 4);
        x.kind(0, 4, 0);
        x.hint(0, 0, 9);
        asks(x, 0, 5, 20);
        room("with 5 left", x, "5/0/0/1 20/0/0/0");
        asks(x, 0, 21);
        room("the last place", x, "5/0/0/1 20/0/0/0 21/0/0/0");
        asks(x, 0, 22);
        room("no place", x, "20/0/0/0 21/0/0/0 22/0/0/0");
    }

    /** "OWNED by this ASKER, or by one that has more in THE ROOM than its SHARE" */
    private static void aShareIsKeptToTheLastOne() {
        ReadAhead x = cleared(3, 1, 4);
        x.share(0, 2);
        asks(x, 0, 1, 2);
        asks(x, 1, 50);
        asks(x, 2, 40);
        room("0 has its share and no more", x, "1/0/0/0 2/0/0/0 40/2/0/0");
        x.share(0, 1);
        asks(x, 3, 41);
        room("0 had one more", x, "2/0/0/0 40/2/0/0 41/3/0/0");
        asks(x, 3, 42);
        room("0 has its share again", x, "2/0/0/0 41/3/0/0 42/3/0/0");
        x.share(0, 3);
        asks(x, 1, 43);
        room("0 has less than its share", x, "2/0/0/0 42/3/0/0 43/1/0/0");
    }

    /** The same: its own one may go, whatever its share is. */
    private static void itsOwnMayGoWithinItsShare() {
        ReadAhead x = cleared(2, 1, 4);
        x.share(0, 2);
        asks(x, 0, 1, 2, 3);
        room("of its own", x, "2/0/0/0 3/0/0/0");
        due.is("not read through", x.told(0, 6), 0);
    }

    /** "of these the LEFT ones first; else, of all of these, the oldest one (of several LEFT ones the oldest)" */
    private static void leftOnesAheadOfTheOldest() {
        ReadAhead x = cleared(4, 1, 4);
        asks(x, 1, 50);
        x.kind(0, 4, 0);
        x.hint(0, 0, 9);
        asks(x, 0, 7, 3, 8);
        room("7 and 3 are left", x, "50/1/0/0 7/0/0/1 3/0/0/1 8/0/0/0");
        asks(x, 2, 20);
        room("the older of them goes", x, "50/1/0/0 3/0/0/1 8/0/0/0 20/2/0/0");
        asks(x, 2, 21);
        room("then the other one", x, "50/1/0/0 8/0/0/0 20/2/0/0 21/2/0/0");
        asks(x, 2, 22);
        room("then the oldest of all", x, "8/0/0/0 20/2/0/0 21/2/0/0 22/2/0/0");
    }

    /** The same: "of these" are only those that may go. */
    private static void leftOnesThatMayNotGo() {
        ReadAhead x = cleared(3, 1, 4);
        x.share(0, 2);
        x.kind(0, 4, 0);
        x.hint(0, 0, 9);
        asks(x, 0, 5, 6);
        asks(x, 1, 50);
        room("5 is left", x, "5/0/0/1 6/0/0/0 50/1/0/0");
        asks(x, 2, 20);
        room("but it is within a share", x, "5/0/0/1 6/0/0/0 20/2/0/0");
        x.share(0, 1);
        asks(x, 2, 21);
        room("now it is above it", x, "6/0/0/0 20/2/0/0 21/2/0/0");
    }

    /** "(a DEMANDED one is READ THROUGH: it counts as served)": the next serve of the tick is another's. */
    private static void readThroughCountsAsServed() {
        ReadAhead x = cleared(1, 2, 4);
        x.share(0, 1);
        x.kind(0, 1, 2);
        asks(x, 0, 10);
        due.is("ask(1, 30)", x.ask(1, 30), 1);
        due.is("read through", x.told(1, 6), 1);
        due.is("not wasted", x.told(1, 4), 0);
        due.is("not a hit", x.told(1, 1), 0);
        room("12 came in the same tick", x, "12/0/1/0");
        due.is("ticks", x.house(1), 2);
        due.is("the arm went by 30", x.house(6), 10 + 20 + 18);
    }

    /** The same: what is read through is not in the room, so that it stalls again. */
    private static void readThroughStallsEachTime() {
        ReadAhead x = cleared(1, 1, 4);
        x.share(0, 1);
        asks(x, 0, 5);
        for (int i = 1; i <= 3; i++) {
            due.is("ask(1, 6)", x.ask(1, 6), 1);
            due.is("read through", x.told(1, 6), i);
        }
        due.is("told(-1, 6)", x.told(ReadAhead.NONE, 6), 3);
        room("as it was", x, "5/0/0/0");
    }

    /** "so is a fetched one that does not come": wasted, for its own asker. */
    private static void fetchedThatDoesNotComeIsWasted() {
        ReadAhead x = cleared(1, 1, 4);
        x.share(0, 1);
        asks(x, 0, 5);
        x.kind(1, 5, 8);
        asks(x, 1, 61);
        due.is("idle(64)", x.idle(64), 0);
        due.is("served ahead", x.told(1, 3), 2);
        due.is("wasted", x.told(1, 4), 2);
        due.is("not read through but 61", x.told(1, 6), 1);
        due.is("half of half of 8", x.reach(1), 2);
        due.is("nothing of 0 was wasted", x.told(0, 4), 0);
    }

    /** "One that goes FRESH is WASTED, for its OWNER" */
    private static void wastedOnlyIfFresh() {
        ReadAhead x = cleared(2, 1, 4);
        x.kind(0, 1, 2);
        asks(x, 0, 10);
        x.idle(2);
        room("both are fresh", x, "11/0/1/0 12/0/1/0");
        due.is("10 was not", x.told(ReadAhead.NONE, 4), 0);
        asks(x, 1, 12);
        asks(x, 1, 50);
        due.is("11 was, for 0", x.told(0, 4), 1);
        asks(x, 1, 51);
        due.is("12 was saved, and is not wasted too", x.told(0, 4), 1);
        due.is("nothing of 1 was wasted", x.told(1, 4), 0);
    }

    /** A demanded one comes, and what is served behind it in the same tick makes it go: not read through. */
    private static void demandedMayGoInItsOwnTick() {
        ReadAhead x = cleared(1, 2, 4);
        x.kind(0, 1, 2);
        asks(x, 0, 10);
        due.is("ask(0, 20)", x.ask(0, 20), 1);
        room("12 came behind 20", x, "12/0/1/0");
        line("11 waits still", x, "11/0 21/0 22/0");
        due.is("read through", x.told(0, 6), 0);
        due.is("wasted: 20 was not fresh", x.told(0, 4), 0);
        due.is("ask(0, 20) again", x.ask(0, 20), 1);
    }

    /** "a HIT (if it is FRESH, it is SAVED, for its OWNER, and not FRESH then)" */
    private static void savedOnceAndForItsOwner() {
        ReadAhead x = cleared(4, 1, 4);
        x.kind(0, 1, 1);
        asks(x, 0, 10);
        x.idle(1);
        due.is("ask(1, 11)", x.ask(1, 11), 0);
        due.is("ask(1, 11)", x.ask(1, 11), 0);
        due.is("saved for 0", x.told(0, 5), 1);
        due.is("saved for 1", x.told(1, 5), 0);
        due.is("hits of 1", x.told(1, 1), 2);
        due.is("hits of 0", x.told(0, 1), 0);
    }

    /** "it is DEMANDED (if it waits, it waits no more)" */
    private static void askedWhileItWaits() {
        ReadAhead x = cleared(4, 1, 4);
        x.kind(0, 1, 3);
        asks(x, 0, 10);
        x.kind(0, 0, 0);
        due.is("ask(0, 12)", x.ask(0, 12), 1);
        line("the others wait", x, "11/0 13/0");
        room("12 is not fresh", x, "10/0/0/0 12/0/0/0");
        due.is("not served ahead", x.told(0, 3), 0);
        due.is("not saved", x.told(0, 5), 0);
        due.is("not wasted", x.told(0, 4), 0);
    }

    /** "each, in order, that is in 0 .. 63, not in THE ROOM, and not WAITING, comes to wait" */
    private static void wishesPassByWhatIsThere() {
        ReadAhead x = cleared(4, 1, 4);
        asks(x, 1, 61);
        x.kind(0, 1, 1);
        asks(x, 0, 59);
        x.kind(2, 1, 8);
        asks(x, 2, 58);
        line("59 and 61 are in the room, 60 waits for 0, 64 to 66 are none", x, "60/0 62/2 63/2");
    }

    /** "Then, if this is the PACE-th ASK ..., a TICK passes": behind the wishes, which it serves. */
    private static void wishesComeAheadOfThePace() {
        ReadAhead x = cleared(4, 1, 1);
        x.kind(0, 1, 1);
        due.is("ask(0, 5)", x.ask(0, 5), 1);
        room("6 came at once", x, "5/0/0/0 6/0/1/0");
        due.is("stalls: the tick of the pace is none", x.told(0, 2), 1);
        due.is("ticks", x.house(1), 2);
        due.is("ask(0, 6)", x.ask(0, 6), 0);
        due.is("a hit, and the pace", x.house(1), 3);
    }

    /** "if this is the PACE-th ASK since clear(), or the 2 PACE-th, and so on" (1 .. 4; 2 at first) */
    private static void paceCountsEachAsk() {
        for (int pace = 1; pace <= 4; pace++) {
            ReadAhead x = cleared(4, 1, pace);
            for (int i = 1; i <= 9; i++) {
                x.ask(i % 4, 5);
                x.ask(0, 64);
                x.ask(4, 5);
                due.is("pace " + pace + ": ticks behind ask " + i, x.house(1), 1 + i / pace);
            }
        }
        ReadAhead x = new ReadAhead();
        asks(x, 0, 5);
        due.is("of a new one: ticks", x.house(1), 1);
        asks(x, 0, 5);
        due.is("of a new one: ticks", x.house(1), 2);
    }

    // ---- section 3

    private static ReadAhead ofKind(int space, int kind, int reach) {
        ReadAhead x = cleared(space, 1, 4);
        x.kind(0, kind, reach);
        x.hint(0, 0, 63);
        return x;
    }

    /** "KINDS of ASKERS, with a REACH (0 .. 8)": with 0 no kind wishes. */
    private static void noReachNoWishes() {
        for (int kind = 0; kind <= 5; kind++) {
            ReadAhead x = ofKind(1, kind, 0);
            asks(x, 0, 10, 11, 12, 10);
            due.is("kind " + kind + ": waiting or served", x.house(5) + x.told(0, 3), 0);
        }
    }

    /** "0 PLAIN: no WISHES" */
    private static void plainWishesNothing() {
        ReadAhead x = ofKind(1, 0, 8);
        asks(x, 0, 10, 11, 12, 10, 11, 12);
        due.is("plain: waiting or served", x.house(5) + x.told(0, 3), 0);
    }

    /** The same: with 8 each kind wishes 8, and no more. */
    private static void reachOfEight() {
        ReadAhead x = ofKind(12, 1, 8);
        asks(x, 0, 10);
        line("ahead", x, Bench.run(11, 18, 0));
        x = ofKind(12, 2, 8);
        asks(x, 0, 10, 11, 12);
        line("strided", x, Bench.run(13, 20, 0));
        x = ofKind(12, 4, 8);
        asks(x, 0, 10);
        line("hinted", x, Bench.run(11, 18, 0));
        x = ofKind(12, 5, 8);
        asks(x, 0, 10);
        line("cautious", x, Bench.run(11, 18, 0));
        x = ofKind(1, 0, 0);
        asks(x, 0, 20, 21, 22, 23, 24, 25, 26, 27, 28, 29);
        x.kind(0, 3, 8);
        asks(x, 0, 20);
        line("follower", x, Bench.run(21, 28, 0));
    }

    /** "1 AHEAD: the next REACH BLOCKS behind the one that was asked for": there are none above 63. */
    private static void aheadEndsAtTheLastBlock() {
        for (int kind : new int[] {1, 5}) {
            for (int block = 54; block <= 63; block++) {
                ReadAhead x = ofKind(4, kind, 8);
                asks(x, 0, block);
                line("kind " + kind + ", behind " + block, x, Bench.run(block + 1, Math.min(block + 8, 63), 0));
            }
        }
    }

    private static void strides(String want, int... blocks) {
        ReadAhead x = ofKind(12, 2, 3);
        StringBuilder text = new StringBuilder("strided");
        for (int i = 0; i < blocks.length; i++) {
            text.append(' ').append(blocks[i]);
            x.ask(0, blocks[i]);
            if (i < blocks.length - 1) {
                due.is(text + ": waiting or served", x.house(5) + x.told(0, 3), 0);
            }
        }
        line(text.toString(), x, want);
    }

    /** "if STEP is not 0 and was the same the time before" */
    private static void stridedNeedsTwoLikeSteps() {
        strides("", 10);
        strides("", 10, 13);
        strides("19/0 22/0 25/0", 10, 13, 16);
        strides("", 10, 13, 10);
        strides("", 10, 13, 17);
        strides("", 10, 10, 10);
        strides("", 10, 10, 13);
        strides("", 10, 13, 13);
        strides("", 10, 13, 13, 16, 16);
        strides("22/0 25/0 28/0", 10, 13, 13, 16, 19);
        strides("", 0, 1, 3);
        strides("3/0 4/0 5/0", 0, 1, 2);
    }

    /** "the BLOCK and 1, 2, .. REACH times STEP": only those "in 0 .. 63" come to wait. */
    private static void stridedPassesTheEnds() {
        strides("0/0", 63, 42, 21);
        strides("63/0", 0, 21, 42);
        strides("", 62, 31, 0);
        strides("", 1, 32, 63);
        strides("1/0 0/0", 4, 3, 2);
        strides("62/0 63/0", 59, 60, 61);
    }

    /** "what followed the BLOCK, what followed that, and so on, REACH times at most, till none is known" */
    private static void followerEndsWhereNoneIsKnown() {
        ReadAhead x = ofKind(1, 3, 8);
        asks(x, 0, 7);
        line("the first ask of all", x, "");
        asks(x, 0, 8, 9);
        line("nothing is known behind new ones", x, "");
        x = cleared(1, 1, 3);
        asks(x, 0, 0, 63, 1, 2);
        x.kind(0, 3, 3);
        asks(x, 0, 0);
        line("three of four", x, "63/0 1/0 2/0");
        x = cleared(1, 1, 3);
        asks(x, 0, 0, 63, 1, 2);
        x.kind(0, 3, 1);
        asks(x, 0, 0);
        line("one of four", x, "63/0");
        x = cleared(1, 1, 4);
        asks(x, 0, 5, 6);
        asks(x, 1, 5);
        x.kind(1, 3, 8);
        asks(x, 1, 5);
        due.is("what followed for 0 is nothing to 1", x.house(5) + x.told(1, 3), 0);
    }

    /** The same, where what follows comes round to the block itself; and "the latest time". */
    private static void followerGoesRound() {
        ReadAhead x = cleared(1, 1, 4);
        x.share(1, 1);
        asks(x, 1, 40);
        x.kind(0, 3, 8);
        asks(x, 0, 5, 5);
        line("itself, once", x, "5/0");
        x = cleared(1, 1, 4);
        x.kind(0, 3, 8);
        asks(x, 0, 5, 6, 5);
        line("6, and 5, which is in the room", x, "6/0");
        x = cleared(1, 1, 4);
        asks(x, 0, 1, 2, 1, 3, 4);
        x.kind(0, 3, 1);
        asks(x, 0, 1);
        line("3 followed 1 the latest time", x, "3/0");
    }

    private static void hinted(int a, int b, int reach, int block, String want) {
        ReadAhead x = cleared(12, 1, 4);
        x.kind(0, 4, reach);
        x.hint(0, a, b);
        asks(x, 0, block);
        line("span " + a + " .. " + b + ", reach " + reach + ", behind " + block, x, want);
    }

    /** "the BLOCKS of its SPAN behind this one, REACH at most, if this one is in the SPAN (... none at first)" */
    private static void hintedFromEndToEnd() {
        hinted(10, 14, 8, 9, "");
        hinted(10, 14, 8, 10, "11/0 12/0 13/0 14/0");
        hinted(10, 14, 8, 13, "14/0");
        hinted(10, 14, 8, 14, "");
        hinted(10, 14, 8, 15, "");
        hinted(10, 14, 4, 10, "11/0 12/0 13/0 14/0");
        hinted(10, 14, 3, 10, "11/0 12/0 13/0");
        hinted(10, 10, 8, 10, "");
        hinted(0, 63, 8, 0, Bench.run(1, 8, 0));
        hinted(0, 63, 8, 62, "63/0");
        hinted(0, 63, 8, 63, "");
        hinted(0, 0, 8, 0, "");
        ReadAhead x = cleared(12, 1, 4);
        x.kind(0, 4, 8);
        asks(x, 0, 0, 10, 63);
        line("no span", x, "");
    }

    /** "each time that one of its BLOCKS is WASTED, it is half of that" ("/ cuts towards 0") */
    private static void halfIsCutTowardsZero() {
        ReadAhead x = cleared(1, 1, 4);
        x.kind(0, 5, 7);
        asks(x, 0, 10);
        int[] want = {7, 3, 1, 0, 0, 0, 0};
        for (int i = 0; i < want.length; i++) {
            due.is("idle(1)", x.idle(1), 1);
            due.is("wasted", x.told(0, 4), i);
            due.is("half of the one before", x.reach(0), want[i]);
        }
    }

    /** "each time that one is SAVED, 1 more, up to 8" */
    private static void oneMoreUpToEight() {
        ReadAhead x = cleared(12, 1, 4);
        x.kind(0, 1, 8);
        asks(x, 0, 10);
        x.idle(8);
        x.kind(0, 5, 6);
        int[] want = {7, 8, 8, 8};
        for (int i = 0; i < want.length; i++) {
            x.ask(1, 11 + i);
            due.is("saved", x.told(0, 5), i + 1);
            due.is("one more, by another's ask", x.reach(0), want[i]);
        }
        x.kind(0, 5, 0);
        x.ask(1, 15);
        due.is("one more than 0", x.reach(0), 1);
        x.ask(1, 15);
        due.is("not saved twice", x.reach(0), 1);
        x.kind(0, 1, 0);
        x.ask(1, 16);
        due.is("of one that is not cautious", x.reach(0), 0);
    }

    /** "with a REACH of its own": what was wasted or saved in the ask at hand counts for its wishes. */
    private static void cautionChangesAheadOfWishes() {
        ReadAhead x = cleared(12, 1, 4);
        x.kind(0, 5, 1);
        asks(x, 0, 10);
        x.idle(1);
        asks(x, 0, 11);
        line("saved: two wishes", x, "12/0 13/0");
        x = cleared(1, 1, 4);
        x.kind(0, 5, 2);
        asks(x, 0, 10);
        x.idle(1);
        asks(x, 0, 30);
        line("wasted: one wish", x, "12/0 31/0");
    }

    /** "What an ASKER asked for is known from its first ASK on, whatever its KIND is (STEPS, what followed)" */
    private static void knownWhateverTheKind() {
        for (int kind = 0; kind <= 5; kind++) {
            ReadAhead x = ofKind(1, kind, 0);
            asks(x, 0, 10, 20);
            due.is("kind " + kind + ": follows(0, 10)", x.follows(0, 10), 20);
            x.kind(0, 2, 1);
            asks(x, 0, 30);
            line("kind " + kind + ": the steps are known", x, "40/0");
            x = ofKind(1, kind, 0);
            asks(x, 0, 10, 20);
            x.kind(0, 3, 1);
            asks(x, 0, 10);
            line("kind " + kind + ": what followed is known", x, "20/0");
        }
    }

    /** "kind() begins REACH of its own anew": of a cautious one that becomes cautious, too. */
    private static void kindBeginsReachAnew() {
        ReadAhead x = cleared(1, 1, 4);
        x.kind(0, 5, 8);
        asks(x, 0, 10);
        x.idle(3);
        due.is("reach(0)", x.reach(0), 2);
        due.is("kind(0, 5, 8)", x.kind(0, 5, 8), 5);
        due.is("reach(0), anew", x.reach(0), 8);
    }

    /** "and takes its SPAN away": of a hinted one that becomes hinted, too. */
    private static void kindTakesTheSpanAway() {
        ReadAhead x = ofKind(12, 4, 2);
        due.is("kind(0, 4, 2)", x.kind(0, 4, 2), 4);
        asks(x, 0, 10);
        line("no span", x, "");
        x.hint(0, 0, 63);
        x.kind(1, 4, 2);
        asks(x, 0, 20);
        line("another's kind() takes nothing away", x, "21/0 22/0");
        due.same("10 is left", Bench.left(x), "10");
        x.kind(0, 0, 2);
        due.same("nothing is left without a span", Bench.left(x), "");
        x.kind(0, 4, 2);
        due.same("nor when it is hinted again", Bench.left(x), "");
    }

    /** "asked latest for one outside of it, or for one of it that is above the BLOCK; if the BLOCK is in its SPAN" */
    private static void leftAtTheEndsOfTheSpan() {
        ReadAhead x = cleared(12, 1, 4);
        x.kind(0, 4, 0);
        asks(x, 0, 4, 5, 6, 7, 8, 9, 10);
        due.same("no span", Bench.left(x), "");
        x.hint(0, 6, 8);
        due.same("latest 10, outside", Bench.left(x), "6 7 8");
        int[] latest = {9, 8, 7, 6, 5};
        String[] want = {"6 7 8", "6 7", "6", "", "6 7 8"};
        for (int i = 0; i < latest.length; i++) {
            asks(x, 0, latest[i]);
            due.same("latest " + latest[i], Bench.left(x), want[i]);
        }
        x.hint(0, 8, 8);
        due.same("a span of one, latest outside", Bench.left(x), "8");
        asks(x, 0, 8);
        due.same("a span of one, latest in it", Bench.left(x), "");
        x.hint(0, 0, 63);
        due.same("a span of all, latest 8", Bench.left(x), "4 5 6 7");
        x.hint(0, 20, 63);
        due.same("a span without any, latest outside", Bench.left(x), "");
    }

    /** "LEFT is a BLOCK OWNED by an ASKER that is HINTED": what others ask for, or hint, is nothing to it. */
    private static void leftOnlyByItsOwner() {
        ReadAhead x = cleared(12, 1, 4);
        asks(x, 1, 5);
        x.kind(0, 4, 0);
        x.hint(0, 0, 63);
        asks(x, 0, 6, 20);
        due.same("5 is another's", Bench.left(x), "6");
        asks(x, 1, 6);
        due.same("another asked for 6", Bench.left(x), "6");
        x.kind(1, 4, 0);
        x.hint(1, 0, 5);
        due.same("5 is left by its own", Bench.left(x), "5 6");
    }

    /** "asked latest", in a tick of an ask: the kind learns what is asked for only behind its stalls. */
    private static void leftByTheAskBefore() {
        ReadAhead x = cleared(2, 1, 4);
        x.kind(0, 4, 0);
        asks(x, 1, 50);
        x.hint(0, 0, 9);
        asks(x, 0, 5);
        room("5 is not left yet", x, "50/1/0/0 5/0/0/0");
        asks(x, 0, 20);
        room("so that the oldest went", x, "5/0/0/1 20/0/0/0");
        asks(x, 0, 6);
        room("now it was left", x, "20/0/0/0 6/0/0/0");
    }
}
