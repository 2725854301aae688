/** Helpers of the tests for a table: a look at all of it, and a short way to write runs of calls. */
final class Table {
    /** A whole deal of ramsch, in which player 0 wins all tricks. */
    static final String RAMSCH_OVER =
        "d2293 p p p 29 1 30 14 10 8 26 24 19 31 15 7 27 20 6 21 18 17 23 0 5 25 13 2 22 3 9 16 4 12";

    private Table() {
    }

    /** A new table on which the calls have been made that the words name; none if there are no words. */
    static SkatMill after(String words) {
        SkatMill x = new SkatMill();
        if (!words.isEmpty()) {
            run(x, words);
        }
        return x;
    }

    static long set(int... cards) {
        long set = 0;
        for (int card : cards) {
            set |= 1L << card;
        }
        return set;
    }

    /** All that the table answers to calls that only ask. */
    static String look(SkatMill x) {
        StringBuilder s = new StringBuilder();
        s.append("phase ").append(x.phase()).append(" onTurn ").append(x.onTurn());
        s.append(" latestBid ").append(x.latestBid()).append(" declarer ").append(x.declarer());
        s.append(" contract ").append(x.contract());
        s.append(" playable ").append(Checks.outcome(x::playable));
        s.append(" value ").append(Checks.outcome(x::value));
        for (int i = 0; i < 3; i++) {
            int player = i;
            s.append(" [").append(i).append(": hand ").append(x.hand(i)).append(" inTrick ").append(x.inTrick(i));
            s.append(" points ").append(x.points(i)).append(" tricks ").append(x.tricks(i));
            s.append(" score ").append(x.score(i)).append(" matadors");
            for (int c = 0; c < 5; c++) {
                s.append(' ').append(x.matadors(player, c));
            }
            s.append(']');
        }
        return s.toString();
    }

    /**
     * Makes the calls that the words name, and returns the answer of the last: d7 deal(7), b18 bid(18), h hold(),
     * p pass(), t takeSkat(), w3,4 putAway(3, 4), a2,1 announce(2, 1), and a bare number plays that card.
     */
    static long run(SkatMill x, String words) {
        long last = 0;
        for (String word : words.trim().split("\\s+")) {
            last = call(x, word);
        }
        return last;
    }

    private static long call(SkatMill x, String word) {
        char first = word.charAt(0);
        if (Character.isDigit(first)) {
            return x.play(Integer.parseInt(word));
        }
        String[] parts = word.substring(1).split(",");
        switch (first) {
            case 'd':
                return x.deal(Integer.parseInt(parts[0]));
            case 'b':
                return x.bid(Integer.parseInt(parts[0]));
            case 'h':
                return x.hold();
            case 'p':
                return x.pass();
            case 't':
                return x.takeSkat();
            case 'w':
                return x.putAway(Integer.parseInt(parts[0]), Integer.parseInt(parts[1]));
            case 'a':
                return x.announce(Integer.parseInt(parts[0]), Integer.parseInt(parts[1]));
            default:
                throw new IllegalArgumentException(word);
        }
    }
}
