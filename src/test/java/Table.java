/** Helpers of the tests for a table: a look at all of it, and a short way to write runs of calls. */
final class Table {
    /** A whole deal of ramsch, in which player 0 wins all tricks. */
    static final String RAMSCH_OVER =
        "d2293 p p p 29 1 30 14 10 8 26 24 19 31 15 7 27 20 6 21 18 17 23 0 5 25 13 2 22 3 9 16 4 12";

    /** All bids there are, from the least to the greatest. */
    static final int[] BIDS = {
        18, 20, 22, 23, 24, 27, 30, 33, 35, 36, 40, 44, 45, 46, 48, 50, 54, 55, 59, 60, 63, 66, 70, 72, 77, 80, 81, 84,
        88, 90, 96, 99, 100, 108, 110, 117, 120, 121, 126, 130, 132, 135, 140, 143, 144, 150, 153, 154, 156, 160, 162,
        165, 168, 170, 176, 180, 187, 192, 198, 204, 216, 240, 264};

    private Table() {
    }

    /** A new table on which the calls have been made that the words name; none if there are no words. */
    static SkatMill after(String words) {
        SkatMill x = new SkatMill();
        if (!words.isEmpty()) {
            run(x, words);
        }
        return x;
    }

    static long set(int... cards) {
        long set = 0;
        for (int card : cards) {
            set |= 1L << card;
        }
        return set;
    }

    /** All that the table answers to calls that only ask. */
    static String look(SkatMill x) {
        StringBuilder s = new StringBuilder();
        s.append("phase ").append(x.phase()).append(" onTurn ").append(x.onTurn());
        s.append(" latestBid ").append(x.latestBid()).append(" declarer ").append(x.declarer());
        s.append(" contract ").append(x.contract());
        s.append(" playable ").append(Checks.outcome(x::playable));
        s.append(" value ").append(Checks.outcome(x::value));
        for (int i = 0; i < 3; i++) {
            int player = i;
            s.append(" [").append(i).append(": hand ").append(x.hand(i)).append(" inTrick ").append(x.inTrick(i));
            s.append(" points ").append(x.points(i)).append(" tricks ").append(x.tricks(i));
            s.append(" score ").append(x.score(i)).append(" matadors");
            for (int c = 0; c < 5; c++) {
                s.append(' ').append(x.matadors(player, c));
            }
            s.append(']');
        }
        return s.toString();
    }

    /**
     * Makes the calls that the words name, and returns the answer of the last: d7 deal(7), b18 bid(18), h hold(),
     * p pass(), t takeSkat(), w3,4 putAway(3, 4), a2,1 announce(2, 1), and a bare number plays that card. Any call
     * can be named in full too, as matadors(2,4).
     */
    static long run(SkatMill x, String words) {
        long last = 0;
        for (String word : words.trim().split("\\s+")) {
            last = call(x, word);
        }
        return last;
    }

    private static long call(SkatMill x, String word) {
        char first = word.charAt(0);
        if (word.indexOf('(') > 0) {
            return namedCall(x, word);
        }
        if (Character.isDigit(first)) {
            return x.play(Integer.parseInt(word));
        }
        String[] parts = word.substring(1).split(",");
        switch (first) {
            case 'd':
                return x.deal(Integer.parseInt(parts[0]));
            case 'b':
                return x.bid(Integer.parseInt(parts[0]));
            case 'h':
                return x.hold();
            case 'p':
                return x.pass();
            case 't':
                return x.takeSkat();
            case 'w':
                return x.putAway(Integer.parseInt(parts[0]), Integer.parseInt(parts[1]));
            case 'a':
                return x.announce(Integer.parseInt(parts[0]), Integer.parseInt(parts[1]));
            default:
                throw new UnsupportedOperationException(word);
        }
    }

    private static long namedCall(SkatMill x, String word) {
        int open = word.indexOf('(');
        String[] parts = word.substring(open + 1, word.length() - 1).split(",");
        int one = parts[0].isEmpty() ? 0 : Integer.parseInt(parts[0]);
        int other = parts.length < 2 ? 0 : Integer.parseInt(parts[1]);
        switch (word.substring(0, open)) {
            case "deal":
                return x.deal(one);
            case "phase":
                return x.phase();
            case "onTurn":
                return x.onTurn();
            case "bid":
                return x.bid(one);
            case "hold":
                return x.hold();
            case "pass":
                return x.pass();
            case "latestBid":
                return x.latestBid();
            case "nextBid":
                return x.nextBid(one);
            case "declarer":
                return x.declarer();
            case "takeSkat":
                return x.takeSkat();
            case "putAway":
                return x.putAway(one, other);
            case "announce":
                return x.announce(one, other);
            case "contract":
                return x.contract();
            case "matadors":
                return x.matadors(one, other);
            case "playable":
                return x.playable();
            case "play":
                return x.play(one);
            case "hand":
                return x.hand(one);
            case "inTrick":
                return x.inTrick(one);
            case "points":
                return x.points(one);
            case "tricks":
                return x.tricks(one);
            case "value":
                return x.value();
            case "score":
                return x.score(one);
            default:
                throw new UnsupportedOperationException(word);
        }
    }
}
