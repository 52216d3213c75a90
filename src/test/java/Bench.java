/** What the tests by hand share: a bench made ready, and its blocks as texts. */
final class Bench {
    private Bench() {
    }

    static ReadAhead cleared(int space, int speed, int pace) {
        ReadAhead x = new ReadAhead();
        x.clear(space, speed, pace);
        return x;
    }

    static void asks(ReadAhead x, int p, int... blocks) {
        for (int block : blocks) {
            x.ask(p, block);
        }
    }

    /** The room as block/owner/fresh/left, the oldest first. */
    static String room(ReadAhead x) {
        StringBuilder text = new StringBuilder();
        for (int i = 0; i < x.house(4); i++) {
            text.append(i == 0 ? "" : " ").append(x.room(i, 0)).append('/').append(x.room(i, 1));
            text.append('/').append(x.room(i, 2)).append('/').append(x.room(i, 3));
        }
        return text.toString();
    }

    /** The blocks in the room that are left, by their numbers. */
    static String left(ReadAhead x) {
        StringBuilder text = new StringBuilder();
        for (int block = 0; block < 64; block++) {
            for (int i = 0; i < x.house(4); i++) {
                if (x.room(i, 0) == block && x.room(i, 3) == 1) {
                    text.append(text.length() == 0 ? "" : " ").append(block);
                }
            }
        }
        return text.toString();
    }

    /** Those that wait as block/asker. */
    static String line(ReadAhead x) {
        StringBuilder text = new StringBuilder();
        for (int i = 0; i < x.house(5); i++) {
            text.append(i == 0 ? "" : " ").append(x.waiting(i, 0)).append('/').append(x.waiting(i, 1));
        }
        return text.toString();
    }

    /** Blocks from a to b, all for one asker, in the form of line(). */
    static String run(int a, int b, int p) {
        StringBuilder text = new StringBuilder();
        for (int block = a; block <= b; block++) {
            text.append(block == a ? "" : " ").append(block).append('/').append(p);
        }
        return text.toString();
    }
}
