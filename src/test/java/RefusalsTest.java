import java.util.ArrayList;
import java.util.List;

/**
 * Every call at every time, in all promises: what is refused then and by which exception, what is not, and that a
 * call that is refused changes nothing.
 */
public final class RefusalsTest {
    private static final int LEAST = Integer.MIN_VALUE;
    private static final int GREATEST = Integer.MAX_VALUE;
    private static final String GAME_BUT_FOR_THE_LAST_CARD =
        "d859 p p b18 a0,0 31 17 23 7 10 0 6 26 3 5 27 4 2 18 8 1 11 16 14 12 13 30 28 29 25 19 20 24 22";

    /** The calls that lead to a time, and which of the calls that are bound to a time are possible then. */
    private static final String[][] TIMES = {
        {"", "bid pass"},
        {"b18", "hold pass"},
        {"b18 h", "bid pass"},
        {"b18 p", "bid pass"},
        {"b18 p b20", "hold pass"},
        {"p", "bid pass"},
        {"p b18", "hold pass"},
        {"p p", "bid pass"},
        {"b264 h", "pass"},
        {"b264 p", "pass"},
        {"b18 p p", "takeSkat announce"},
        {"p p b18", "takeSkat announce"},
        {"b18 p p t", "putAway"},
        {"b18 p p t w1,8", "announce"},
        {"b18 p p a4,0", "playable play value"},
        {"b18 p p a4,0 23", "playable play value"},
        {"b18 p p a4,0 23 31", "playable play value"},
        {"b18 p p a4,0 23 31 15", "playable play value"},
        {"b18 p p t w1,8 a5,3", "playable play value"},
        {GAME_BUT_FOR_THE_LAST_CARD, "playable play value"},
        {GAME_BUT_FOR_THE_LAST_CARD + " 21", "value"},
        {"p p p", "playable play value"},
        {"p p p 5 1", "playable play value"},
        {Table.RAMSCH_OVER, "value"},
        {Table.RAMSCH_OVER + " d0", "bid pass"}};

    private static final Checks CHECKS = new Checks();

    public static void main(String[] args) {
        for (String[] time : TIMES) {
            List<String> possible = List.of(time[1].split(" "));
            boundToATime(time[0], possible);
            playersThatDoNotExist(time[0]);
            cardsThatDoNotExist(time[0]);
            otherArgumentsOutOfRange(time[0]);
            possibleAtAnyTime(time[0]);
        }
        refusedCallsChangeNothingLaterOn();
        CHECKS.end("RefusalsTest");
    }

    // ---- IllegalStateException

    private static void boundToATime(String words, List<String> possible) {
        bids(words, possible.contains("bid"));
        boundCall(words, "hold()", possible.contains("hold"));
        boundCall(words, "pass()", possible.contains("pass"));
        boundCall(words, "takeSkat()", possible.contains("takeSkat"));
        boundCall(words, "putAway(9,11)", possible.contains("putAway"));
        announcements(words, possible.contains("announce"));
        boundCall(words, "playable()", possible.contains("playable"));
        plays(words, possible.contains("play"));
        boundCall(words, "value()", possible.contains("value"));
    }

    private static void boundCall(String words, String call, boolean possible) {
        if (!possible) {
            CHECKS.refused(words, call, Checks.STATE);
            return;
        }
        SkatMill x = Table.after(words);
        String outcome = Checks.outcome(() -> Table.run(x, call));
        CHECKS.same("what is thrown by " + call + " after " + words, thrown(outcome), "");
    }

    private static String thrown(String outcome) {
        return outcome.endsWith("Exception") ? outcome : "";
    }

    private static void bids(String words, boolean possible) {
        boundCall(words, "bid(264)", possible);
        if (!possible) {
            boundCall(words, "bid(18)", false);
            boundCall(words, "bid(59)", false);
        }
    }

    private static void announcements(String words, boolean possible) {
        for (int contract = 0; contract <= 5; contract++) {
            boundCall(words, "announce(" + contract + ",0)", possible);
            for (int extra = 1; !possible && extra <= 3; extra++) {
                boundCall(words, "announce(" + contract + "," + extra + ")", false);
            }
        }
    }

    private static void plays(String words, boolean possible) {
        long playable = possible ? Table.after(words).playable() : 0;
        for (int card = 0; card < 32; card++) {
            boundCall(words, "play(" + card + ")", (playable & 1L << card) != 0);
        }
    }

    // ---- IndexOutOfBoundsException, which goes ahead of the others

    private static void playersThatDoNotExist(String words) {
        int[] players = {-1, 3, LEAST, GREATEST};
        for (int player : players) {
            CHECKS.refused(words, "hand(" + player + ")", Checks.INDEX);
            CHECKS.refused(words, "points(" + player + ")", Checks.INDEX);
            CHECKS.refused(words, "tricks(" + player + ")", Checks.INDEX);
            CHECKS.refused(words, "score(" + player + ")", Checks.INDEX);
            CHECKS.refused(words, "matadors(" + player + ",0)", Checks.INDEX);
            CHECKS.refused(words, "matadors(" + player + ",-1)", Checks.INDEX);
            CHECKS.refused(words, "matadors(" + player + ",5)", Checks.INDEX);
        }
    }

    private static void cardsThatDoNotExist(String words) {
        int[] cards = {-1, 32, LEAST, GREATEST};
        for (int card : cards) {
            CHECKS.refused(words, "play(" + card + ")", Checks.INDEX);
            CHECKS.refused(words, "putAway(" + card + ",9)", Checks.INDEX);
            CHECKS.refused(words, "putAway(9," + card + ")", Checks.INDEX);
            CHECKS.refused(words, "putAway(" + card + "," + card + ")", Checks.INDEX);
        }
    }

    // ---- IllegalArgumentException, which goes ahead of IllegalStateException

    private static void otherArgumentsOutOfRange(String words) {
        refusedForAll(words, "deal", new int[] {-1, LEAST});
        refusedForAll(words, "bid", new int[] {17, 19, 21, 263, 265, 0, -18, LEAST, GREATEST});
        refusedForAll(words, "nextBid", new int[] {-1, 264, LEAST, GREATEST});
        refusedForAll(words, "inTrick", new int[] {-1, 3, LEAST, GREATEST});
        for (int card = 0; card < 32; card++) {
            CHECKS.refused(words, "putAway(" + card + "," + card + ")", Checks.ARGUMENT);
        }
        int[][] announcements = {{-1, 0}, {6, 0}, {0, -1}, {0, 4}, {-1, -1}, {6, 4}, {5, 4}, {5, -1}, {6, 3}, {-1, 3},
            {LEAST, 0}, {GREATEST, 0}, {0, LEAST}, {0, GREATEST}};
        for (int[] pair : announcements) {
            CHECKS.refused(words, "announce(" + pair[0] + "," + pair[1] + ")", Checks.ARGUMENT);
        }
        int[] contracts = {-1, 5, 6, LEAST, GREATEST};
        for (int player = 0; player < 3; player++) {
            for (int contract : contracts) {
                CHECKS.refused(words, "matadors(" + player + "," + contract + ")", Checks.ARGUMENT);
            }
        }
    }

    private static void refusedForAll(String words, String name, int[] arguments) {
        for (int argument : arguments) {
            CHECKS.refused(words, name + "(" + argument + ")", Checks.ARGUMENT);
        }
    }

    // ---- what is possible at any time, at both ends of its range, and changes nothing unless it deals

    private static void possibleAtAnyTime(String words) {
        boundCall(words, "deal(0)", true);
        boundCall(words, "deal(" + GREATEST + ")", true);
        String[] asking = {"phase()", "onTurn()", "latestBid()", "declarer()", "contract()", "nextBid(0)",
            "nextBid(263)", "hand(0)", "hand(2)", "points(0)", "points(2)", "tricks(0)", "tricks(2)", "score(0)",
            "score(2)", "inTrick(0)", "inTrick(2)", "matadors(0,0)", "matadors(2,0)", "matadors(0,4)",
            "matadors(2,4)"};
        for (String call : asking) {
            boundCall(words, call, true);
            SkatMill x = Table.after(words);
            Table.run(x, call);
            CHECKS.same("the table when " + call + " was asked after " + words, Table.look(x),
                Table.look(Table.after(words)));
        }
    }

    // ---- a call that throws an exception changes nothing

    /** At each step of whole deals all calls are made that throw there; what comes later has to be as without. */
    private static void refusedCallsChangeNothingLaterOn() {
        String[] runs = {
            GAME_BUT_FOR_THE_LAST_CARD + " 21 d1 b18",
            Table.RAMSCH_OVER + " d0 p p p",
            "b18 h b20 h p b22 h b23 p t w2,3 a5,3 5 1 4 30 24 29 d3",
            "d2334 p p b18 t w24,10 a0,0 31 23 0 15 7 16 6 8 17 5 9 25 4 18 20 3 30 11 1 26 19 2 29 13 14 27 21 12 28 22",
            "d1338 b18 p p a4,2 0 6 8 31 23 7 15 17 16 14 10 9 30 25 26 5 18 2 13 28 12 4 20 3 1 29 27 24 21 19"};
        for (String run : runs) {
            String[] words = run.split(" ");
            for (int at = 0; at <= words.length; at++) {
                String before = String.join(" ", List.of(words).subList(0, at));
                String later = String.join(" ", List.of(words).subList(at, words.length));
                disturbed(before, later, Table.look(Table.after(run)));
            }
        }
    }

    private static void disturbed(String before, String later, String due) {
        SkatMill x = Table.after(before);
        for (String call : throwing(before)) {
            Checks.outcome(() -> Table.run(x, call));
        }
        if (!later.isEmpty()) {
            String outcome = Checks.outcome(() -> Table.run(x, later));
            CHECKS.same("what is thrown by " + later + " after refused calls behind " + before, thrown(outcome), "");
        }
        CHECKS.same("the table after refused calls behind " + before, Table.look(x), due);
    }

    private static List<String> throwing(String words) {
        List<String> found = new ArrayList<>();
        for (String call : callsToTry()) {
            SkatMill x = Table.after(words);
            if (!thrown(Checks.outcome(() -> Table.run(x, call))).isEmpty()) {
                found.add(call);
            }
        }
        return found;
    }

    private static List<String> callsToTry() {
        List<String> calls = new ArrayList<>(List.of("deal(-1)", "bid(17)", "bid(18)", "bid(20)", "bid(46)", "bid(264)",
            "hold()", "pass()", "nextBid(264)", "takeSkat()", "putAway(-1,0)", "putAway(5,5)", "putAway(1,2)",
            "putAway(9,11)", "putAway(31,32)", "announce(6,0)", "announce(0,4)", "playable()", "play(-1)", "play(32)",
            "hand(3)", "inTrick(3)", "points(-1)", "tricks(3)", "value()", "score(3)", "matadors(3,0)",
            "matadors(0,5)"));
        for (int contract = 0; contract <= 5; contract++) {
            for (int extra = 0; extra <= 3; extra++) {
                calls.add("announce(" + contract + "," + extra + ")");
            }
        }
        for (int card = 0; card < 32; card++) {
            calls.add("play(" + card + ")");
        }
        return calls;
    }
}
