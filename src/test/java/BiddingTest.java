/** Promises 1 to 10: a new object, dealing and bidding. */
public final class BiddingTest {
    private static final int[] BIDS = {
        18, 20, 22, 23, 24, 27, 30, 33, 35, 36, 40, 44, 45, 46, 48, 50, 54, 55, 59, 60, 63, 66, 70, 72, 77, 80, 81, 84,
        88, 90, 96, 99, 100, 108, 110, 117, 120, 121, 126, 130, 132, 135, 140, 143, 144, 150, 153, 154, 156, 160, 162,
        165, 168, 170, 176, 180, 187, 192, 198, 204, 216, 240, 264};

    private static final Checks CHECKS = new Checks();

    public static void main(String[] args) {
        newObject();
        dealGivesCards();
        dealPassesTheForehandOn();
        dealStartsAnew();
        dealRefuses();
        endingsOfTheBidding();
        phaseAndTurnThroughADeal();
        bidTakesTheBidsAlone();
        bidMustBeGreater();
        nextBidGivesTheBids();
        callsAtTheWrongTime();
        CHECKS.end("BiddingTest");
    }

    private static void newObject() {
        SkatMill x = new SkatMill();
        CHECKS.same("a new object", Table.look(x),
            "phase 0 onTurn 1 latestBid 0 declarer -1 contract -1 playable IllegalStateException"
            + " value IllegalStateException"
            + " [0: hand 160842848 inTrick -1 points 0 tricks 0 score 0 matadors -1 -1 -1 -1 -1]"
            + " [1: hand 2690661122 inTrick -1 points 0 tricks 0 score 0 matadors 1 1 1 1 1]"
            + " [2: hand 1443397788 inTrick -1 points 0 tricks 0 score 0 matadors -2 -2 -2 -2 -2]");
    }

    private static void dealGivesCards() {
        long[][] due = {
            {1, 1195779584L, 2684436918L, 406362121L},
            {2, 67314901L, 2325481760L, 1902166536L},
            {3, 81925217L, 185665692L, 4026851842L},
            {65536, 1419904148L, 2164605737L, 709924930L},
            {Integer.MAX_VALUE, 2358251549L, 1361986816L, 541174370L},
            {0, 160842848L, 2690661122L, 1443397788L}};
        SkatMill x = new SkatMill();
        for (long[] row : due) {
            x.deal((int) row[0]);
            for (int player = 0; player < 3; player++) {
                CHECKS.equal("number " + row[0] + ", hand(" + player + ")", x.hand(player), row[player + 1]);
            }
        }
        x.deal(3);
        Table.run(x, "b18 p p");
        CHECKS.equal("number 3, the skat", x.takeSkat(), Table.set(8, 19));
    }

    private static void dealPassesTheForehandOn() {
        SkatMill x = new SkatMill();
        for (int d = 1; d <= 9; d++) {
            CHECKS.equal("deal " + d + ", the forehand", x.deal(d), d % 3);
            CHECKS.equal("deal " + d + ", onTurn()", x.onTurn(), (d + 1) % 3);
        }
    }

    private static void dealStartsAnew() {
        String[] begun = {"b18", "b18 h", "b18 p", "p p", "b18 p p", "b18 p p t", "b18 p p t w1,8", "b18 p p a0,0",
            "p p p", "p p p 5", "p p p 5 1 2", "b18 p p a3,1 5 1 2 10"};
        for (String words : begun) {
            SkatMill x = new SkatMill();
            Table.run(x, words);
            SkatMill y = new SkatMill();
            CHECKS.equal("deal(7) after " + words, x.deal(7), y.deal(7));
            CHECKS.same("the table when deal(7) follows " + words, Table.look(x), Table.look(y));
        }
    }

    private static void dealRefuses() {
        String[] begun = {"d1", "d1 b18", "d1 b18 p p", "d1 b18 p p t", "d1 b18 p p t w0,3", "d1 p p p"};
        for (String words : begun) {
            SkatMill x = new SkatMill();
            Table.run(x, words);
            CHECKS.refused("deal(-1) after " + words, IllegalArgumentException.class, x, () -> x.deal(-1));
            CHECKS.refused("deal(least) after " + words, IllegalArgumentException.class, x,
                () -> x.deal(Integer.MIN_VALUE));
            CHECKS.equal("a refused deal does not count, after " + words, x.deal(0), 2);
        }
    }

    /** Who is declarer, by the seats 0 forehand, 1 middlehand, 2 rearhand; phase, bid and contract then. */
    private static void endingsOfTheBidding() {
        ending("b18 p p", 2, 1, 18, -1);
        ending("b18 p b20 p", 2, 2, 20, -1);
        ending("b18 p b20 h p", 2, 1, 20, -1);
        ending("b18 p b20 h b22 p", 2, 2, 22, -1);
        ending("b18 h p p", 2, 0, 18, -1);
        ending("b18 h b20 p p", 2, 1, 20, -1);
        ending("b18 h b23 h p b24 p", 2, 2, 24, -1);
        ending("b18 h b23 h p b24 h b27 h p", 2, 0, 27, -1);
        ending("p b18 p", 2, 2, 18, -1);
        ending("p b18 h p", 2, 0, 18, -1);
        ending("p b18 h b59 p", 2, 2, 59, -1);
        ending("p p b18", 2, 0, 18, -1);
        ending("p p b264", 2, 0, 264, -1);
        ending("b264 h p p", 2, 0, 264, -1);
        ending("p p p", 5, -1, 0, 6);
    }

    private static void ending(String words, int phase, int seat, int latest, int contract) {
        for (int forehand = 0; forehand < 3; forehand++) {
            SkatMill x = new SkatMill();
            for (int d = 0; d < forehand; d++) {
                x.deal(d);
            }
            String run = "forehand " + forehand + ": " + words;
            int declarer = seat < 0 ? -1 : (forehand + seat) % 3;
            int onTurn = seat < 0 ? forehand : declarer;
            CHECKS.equal(run + " answers", Table.run(x, words), onTurn);
            CHECKS.equal(run + ", phase()", x.phase(), phase);
            CHECKS.equal(run + ", onTurn()", x.onTurn(), onTurn);
            CHECKS.equal(run + ", declarer()", x.declarer(), declarer);
            CHECKS.equal(run + ", latestBid()", x.latestBid(), latest);
            CHECKS.equal(run + ", contract()", x.contract(), contract);
        }
    }

    private static void phaseAndTurnThroughADeal() {
        SkatMill x = new SkatMill();
        step(x, "b18", 0, 1, 18, -1);
        step(x, "h", 1, 0, 18, -1);
        step(x, "b20", 0, 1, 20, -1);
        step(x, "p", 2, 0, 20, -1);
        step(x, "b22", 1, 1, 22, -1);
        step(x, "h", 2, 0, 22, -1);
        step(x, "p", 1, 2, 22, 1);
        Table.run(x, "t");
        CHECKS.equal("phase() after the skat is taken", x.phase(), 3);
        CHECKS.equal("onTurn() after the skat is taken", x.onTurn(), 1);
        Table.run(x, "w1,8");
        CHECKS.equal("phase() after cards are put away", x.phase(), 4);
        CHECKS.equal("onTurn() after cards are put away", x.onTurn(), 1);
        step(x, "a4,0", 0, 5, 22, 1);
        SkatMill y = new SkatMill();
        Table.run(y, "d2293 p p p 29 1 30 14 10 8 26 24 19 31 15 7 27 20 6 21 18 17 23 0 5 25 13 2 22 3 9 16 4");
        CHECKS.equal("phase() ahead of the last card", y.phase(), 5);
        Table.run(y, "12");
        CHECKS.equal("phase() when the deal is over", y.phase(), 6);
        CHECKS.equal("onTurn() when the deal is over", y.onTurn(), -1);
    }

    private static void step(SkatMill x, String word, int onTurn, int phase, int latest, int declarer) {
        CHECKS.equal(word + " answers", Table.run(x, word), onTurn);
        CHECKS.equal("onTurn() after " + word, x.onTurn(), onTurn);
        CHECKS.equal("phase() after " + word, x.phase(), phase);
        CHECKS.equal("latestBid() after " + word, x.latestBid(), latest);
        CHECKS.equal("declarer() after " + word, x.declarer(), declarer);
    }

    private static boolean isBid(int value) {
        for (int bid : BIDS) {
            if (bid == value) {
                return true;
            }
        }
        return false;
    }

    private static void bidTakesTheBidsAlone() {
        for (int value = -5; value <= 300; value++) {
            tryFirstBid(value);
        }
        tryFirstBid(Integer.MIN_VALUE);
        tryFirstBid(Integer.MAX_VALUE);
        tryFirstBid(-18);
    }

    private static void tryFirstBid(int value) {
        SkatMill x = new SkatMill();
        if (isBid(value)) {
            CHECKS.equal("bid(" + value + ")", x.bid(value), 0);
            CHECKS.equal("latestBid() after bid(" + value + ")", x.latestBid(), value);
        } else {
            CHECKS.refused("bid(" + value + ")", IllegalArgumentException.class, x, () -> x.bid(value));
        }
    }

    private static void bidMustBeGreater() {
        SkatMill x = new SkatMill();
        Table.run(x, "b24 h");
        int[] refused = {18, 20, 22, 23, 24};
        for (int value : refused) {
            CHECKS.refused("bid(" + value + ") after 24", IllegalStateException.class, x, () -> x.bid(value));
        }
        CHECKS.refused("bid(25) after 24", IllegalArgumentException.class, x, () -> x.bid(25));
        CHECKS.equal("bid(27) after 24", x.bid(27), 0);
        x.pass();
        CHECKS.refused("the rearhand's bid(27) after 27", IllegalStateException.class, x, () -> x.bid(27));
        CHECKS.equal("the rearhand's bid(30) after 27", x.bid(30), 1);
        SkatMill y = new SkatMill();
        Table.run(y, "b264 h");
        CHECKS.refused("bid(264) after 264", IllegalStateException.class, y, () -> y.bid(264));
        CHECKS.equal("phase() behind 264", y.phase(), 0);
        CHECKS.equal("pass() behind 264", y.pass(), 2);
    }

    private static void nextBidGivesTheBids() {
        SkatMill x = new SkatMill();
        Table.run(x, "b48");
        int at = 0;
        for (int number = 0; number <= 263; number++) {
            if (BIDS[at] <= number) {
                at++;
            }
            CHECKS.equal("nextBid(" + number + ")", x.nextBid(number), BIDS[at]);
        }
        int[] refused = {-1, 264, 265, Integer.MIN_VALUE, Integer.MAX_VALUE};
        for (int number : refused) {
            CHECKS.refused("nextBid(" + number + ")", IllegalArgumentException.class, x, () -> x.nextBid(number));
        }
    }

    /** Which of bid, hold and pass is possible in each phase, and that a wrong argument goes first. */
    private static void callsAtTheWrongTime() {
        possible("", true, false, true);
        possible("b18", false, true, true);
        possible("b18 h", true, false, true);
        possible("b18 p", true, false, true);
        possible("p p", true, false, true);
        possible("b18 p p", false, false, false);
        possible("b18 p p t", false, false, false);
        possible("b18 p p t w1,8", false, false, false);
        possible("b18 p p a4,0", false, false, false);
        possible("p p p", false, false, false);
        possible(Table.RAMSCH_OVER, false, false, false);
    }

    private static void possible(String words, boolean bid, boolean hold, boolean pass) {
        SkatMill x = Table.after(words);
        CHECKS.refused("bid(21) after " + words, IllegalArgumentException.class, x, () -> x.bid(21));
        if (!bid) {
            CHECKS.refused("bid(30) after " + words, IllegalStateException.class, x, () -> x.bid(30));
        }
        if (!hold) {
            CHECKS.refused("hold() after " + words, IllegalStateException.class, x, x::hold);
        }
        if (!pass) {
            CHECKS.refused("pass() after " + words, IllegalStateException.class, x, x::pass);
        }
        if (bid) {
            SkatMill y = Table.after(words);
            y.bid(30);
            CHECKS.equal("latestBid() after " + words + " b30", y.latestBid(), 30);
        }
        if (hold) {
            SkatMill y = Table.after(words);
            CHECKS.equal("hold() after " + words, y.hold(), 1);
        }
        if (pass) {
            SkatMill y = Table.after(words);
            int latest = y.latestBid();
            y.pass();
            CHECKS.equal("latestBid() after " + words + " p", y.latestBid(), latest);
        }
    }
}
