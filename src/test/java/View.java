/** All that an object tells of itself without a change, as one text. */
final class View {
    private View() {
    }

    static String of(ReadAhead x) {
        return of(x, 24);
    }

    /** With foresight() up to a number: a model may find more of it too dear. */
    static String of(ReadAhead x, int foreseen) {
        StringBuilder text = new StringBuilder();
        text.append("digest ").append(x.digest()).append(" house");
        for (int what = 0; what < 8; what++) {
            text.append(' ').append(x.house(what));
        }
        text.append(" room");
        for (int i = 0; x.room(i, 0) != ReadAhead.NONE; i++) {
            for (int what = 0; what < 4; what++) {
                text.append(what == 0 ? ' ' : '/').append(x.room(i, what));
            }
        }
        text.append(" waiting");
        for (int i = 0; x.waiting(i, 0) != ReadAhead.NONE; i++) {
            text.append(' ').append(x.waiting(i, 0)).append('/').append(x.waiting(i, 1));
        }
        for (int p = -1; p < 4; p++) {
            text.append(" asker ").append(p);
            for (int what = 0; what < 10; what++) {
                text.append(' ').append(x.told(p, what));
            }
            text.append(" reach ").append(x.reach(p));
        }
        for (int p = 0; p < 4; p++) {
            text.append(" follows ").append(p);
            for (int block = 0; block < 64; block++) {
                if (x.follows(p, block) != ReadAhead.NONE) {
                    text.append(' ').append(block).append('>').append(x.follows(p, block));
                }
            }
        }
        text.append(" foresight");
        for (int n = 0; n <= foreseen; n++) {
            text.append(' ').append(x.foresight(n));
        }
        return text.toString();
    }
}
