/** Promises 1 to 10: a new object, dealing and bidding. */
public final class BiddingTest {
    private static final int[] BIDS = Table.BIDS;

    private static final Checks CHECKS = new Checks();

    public static void main(String[] args) {
        newObject();
        dealGivesCards();
        dealPassesTheForehandOn();
        dealStartsAnew();
        refusedDealDoesNotCount();
        endingsOfTheBidding();
        phaseAndTurnThroughADeal();
        bidTakesTheBidsAlone();
        bidMustBeGreater();
        bidBehindEachBid();
        greatestBidLeavesAPassAlone();
        allBidsInOneBidding();
        nextBidGivesTheBids();
        CHECKS.end("BiddingTest");
    }

    private static void newObject() {
        SkatMill x = new SkatMill();
        CHECKS.same("a new object", Table.look(x),
            "phase 0 onTurn 1 latestBid 0 declarer -1 contract -1 playable IllegalStateException"
            + " value IllegalStateException"
            + " [0: hand 160842848 inTrick -1 points 0 tricks 0 score 0 matadors -1 -1 -1 -1 -1]"
            + " [1: hand 2690661122 inTrick -1 points 0 tricks 0 score 0 matadors 1 1 1 1 1]"
            + " [2: hand 1443397788 inTrick -1 points 0 tricks 0 score 0 matadors -2 -2 -2 -2 -2]");
    }

    private static void dealGivesCards() {
        long[][] due = {
            {1, 1195779584L, 2684436918L, 406362121L},
            {2, 67314901L, 2325481760L, 1902166536L},
            {3, 81925217L, 185665692L, 4026851842L},
            {65536, 1419904148L, 2164605737L, 709924930L},
            {Integer.MAX_VALUE, 2358251549L, 1361986816L, 541174370L},
            {0, 160842848L, 2690661122L, 1443397788L}};
        SkatMill x = new SkatMill();
        for (long[] row : due) {
            x.deal((int) row[0]);
            for (int player = 0; player < 3; player++) {
                CHECKS.equal("number " + row[0] + ", hand(" + player + ")", x.hand(player), row[player + 1]);
            }
        }
        x.deal(3);
        Table.run(x, "b18 p p");
        CHECKS.equal("number 3, the skat", x.takeSkat(), Table.set(8, 19));
    }

    private static void dealPassesTheForehandOn() {
        SkatMill x = new SkatMill();
        for (int d = 1; d <= 9; d++) {
            CHECKS.equal("deal " + d + ", the forehand", x.deal(d), d % 3);
            CHECKS.equal("deal " + d + ", onTurn()", x.onTurn(), (d + 1) % 3);
        }
    }

    private static void dealStartsAnew() {
        String[] begun = {"b18", "b18 h", "b18 p", "p p", "b18 p p", "b18 p p t", "b18 p p t w1,8", "b18 p p a0,0",
            "p p p", "p p p 5", "p p p 5 1 2", "b18 p p a3,1 5 1 2 10"};
        for (String words : begun) {
            SkatMill x = new SkatMill();
            Table.run(x, words);
            SkatMill y = new SkatMill();
            CHECKS.equal("deal(7) after " + words, x.deal(7), y.deal(7));
            CHECKS.same("the table when deal(7) follows " + words, Table.look(x), Table.look(y));
        }
    }

    private static void refusedDealDoesNotCount() {
        String[] begun = {"d1", "d1 b18", "d1 b18 p p", "d1 b18 p p t", "d1 b18 p p t w0,3", "d1 p p p"};
        for (String words : begun) {
            SkatMill x = Table.after(words);
            CHECKS.same("deal(-1) after " + words, Checks.outcome(() -> x.deal(-1)), Checks.ARGUMENT);
            CHECKS.equal("a refused deal does not count, after " + words, x.deal(0), 2);
        }
    }

    /** Who is declarer, by the seats 0 forehand, 1 middlehand, 2 rearhand; phase, bid and contract then. */
    private static void endingsOfTheBidding() {
        ending("b18 p p", 2, 1, 18, -1);
        ending("b18 p b20 p", 2, 2, 20, -1);
        ending("b18 p b20 h p", 2, 1, 20, -1);
        ending("b18 p b20 h b22 p", 2, 2, 22, -1);
        ending("b18 h p p", 2, 0, 18, -1);
        ending("b18 h b20 p p", 2, 1, 20, -1);
        ending("b18 h b23 h p b24 p", 2, 2, 24, -1);
        ending("b18 h b23 h p b24 h b27 h p", 2, 0, 27, -1);
        ending("p b18 p", 2, 2, 18, -1);
        ending("p b18 h p", 2, 0, 18, -1);
        ending("p b18 h b59 p", 2, 2, 59, -1);
        ending("p p b18", 2, 0, 18, -1);
        ending("p p b264", 2, 0, 264, -1);
        ending("b264 h p p", 2, 0, 264, -1);
        ending("p p p", 5, -1, 0, 6);
    }

    private static void ending(String words, int phase, int seat, int latest, int contract) {
        for (int forehand = 0; forehand < 3; forehand++) {
            SkatMill x = new SkatMill();
            for (int d = 0; d < forehand; d++) {
                x.deal(d);
            }
            String run = "forehand " + forehand + ": " + words;
            int declarer = seat < 0 ? -1 : (forehand + seat) % 3;
            int onTurn = seat < 0 ? forehand : declarer;
            CHECKS.equal(run + " answers", Table.run(x, words), onTurn);
            CHECKS.equal(run + ", phase()", x.phase(), phase);
            CHECKS.equal(run + ", onTurn()", x.onTurn(), onTurn);
            CHECKS.equal(run + ", declarer()", x.declarer(), declarer);
            CHECKS.equal(run + ", latestBid()", x.latestBid(), latest);
            CHECKS.equal(run + ", contract()", x.contract(), contract);
        }
    }

    private static void phaseAndTurnThroughADeal() {
        SkatMill x = new SkatMill();
        step(x, "b18", 0, 1, 18, -1);
        step(x, "h", 1, 0, 18, -1);
        step(x, "b20", 0, 1, 20, -1);
        step(x, "p", 2, 0, 20, -1);
        step(x, "b22", 1, 1, 22, -1);
        step(x, "h", 2, 0, 22, -1);
        step(x, "p", 1, 2, 22, 1);
        Table.run(x, "t");
        CHECKS.equal("phase() after the skat is taken", x.phase(), 3);
        CHECKS.equal("onTurn() after the skat is taken", x.onTurn(), 1);
        Table.run(x, "w1,8");
        CHECKS.equal("phase() after cards are put away", x.phase(), 4);
        CHECKS.equal("onTurn() after cards are put away", x.onTurn(), 1);
        step(x, "a4,0", 0, 5, 22, 1);
        SkatMill y = new SkatMill();
        Table.run(y, "d2293 p p p 29 1 30 14 10 8 26 24 19 31 15 7 27 20 6 21 18 17 23 0 5 25 13 2 22 3 9 16 4");
        CHECKS.equal("phase() ahead of the last card", y.phase(), 5);
        Table.run(y, "12");
        CHECKS.equal("phase() when the deal is over", y.phase(), 6);
        CHECKS.equal("onTurn() when the deal is over", y.onTurn(), -1);
    }

    private static void step(SkatMill x, String word, int onTurn, int phase, int latest, int declarer) {
        CHECKS.equal(word + " answers", Table.run(x, word), onTurn);
        CHECKS.equal("onTurn() after " + word, x.onTurn(), onTurn);
        CHECKS.equal("phase() after " + word, x.phase(), phase);
        CHECKS.equal("latestBid() after " + word, x.latestBid(), latest);
        CHECKS.equal("declarer() after " + word, x.declarer(), declarer);
    }

    private static boolean isBid(int value) {
        for (int bid : BIDS) {
            if (bid == value) {
                return true;
            }
        }
        return false;
    }

    private static void bidTakesTheBidsAlone() {
        for (int value = -5; value <= 300; value++) {
            tryFirstBid(value);
        }
        tryFirstBid(Integer.MIN_VALUE);
        tryFirstBid(Integer.MAX_VALUE);
        tryFirstBid(-18);
    }

    private static void tryFirstBid(int value) {
        String call = "bid(" + value + ")";
        if (isBid(value)) {
            CHECKS.answer("", call, 0);
            CHECKS.answer(call, "latestBid()", value);
        } else {
            CHECKS.refused("", call, Checks.ARGUMENT);
        }
    }

    private static void bidMustBeGreater() {
        int[] refused = {18, 20, 22, 23, 24};
        for (int value : refused) {
            CHECKS.refused("b24 h", "bid(" + value + ")", Checks.STATE);
        }
        CHECKS.refused("b24 h", "bid(25)", Checks.ARGUMENT);
        CHECKS.answer("b24 h", "bid(27)", 0);
        CHECKS.refused("b24 h b27 p", "bid(27)", Checks.STATE);
        CHECKS.answer("b24 h b27 p", "bid(30)", 1);
    }

    /** Behind each bid the next one is possible, and the bid itself and the one before it are not. */
    private static void bidBehindEachBid() {
        for (int i = 0; i < BIDS.length; i++) {
            String held = "b" + BIDS[i] + " h";
            String passed = "b" + BIDS[i] + " p";
            CHECKS.refused(held, "bid(" + BIDS[i] + ")", Checks.STATE);
            CHECKS.refused(passed, "bid(" + BIDS[i] + ")", Checks.STATE);
            if (i > 0) {
                CHECKS.refused(held, "bid(" + BIDS[i - 1] + ")", Checks.STATE);
            }
            if (i < BIDS.length - 1) {
                CHECKS.answer(held, "bid(" + BIDS[i + 1] + ")", 0);
                CHECKS.answer(passed, "bid(" + BIDS[i + 1] + ")", 1);
            }
        }
    }

    private static void greatestBidLeavesAPassAlone() {
        for (int value : BIDS) {
            CHECKS.refused("b264 h", "bid(" + value + ")", Checks.STATE);
            CHECKS.refused("b264 p", "bid(" + value + ")", Checks.STATE);
        }
        CHECKS.answer("b264 h", "phase()", 0);
        CHECKS.answer("b264 h", "pass()", 2);
        CHECKS.answer("b264 p", "phase()", 0);
        CHECKS.answer("b264 p", "pass()", 1);
        CHECKS.answer("b264 h p p", "declarer()", 0);
    }

    /** A bid by each of them in turn, from the least to the greatest. */
    private static void allBidsInOneBidding() {
        SkatMill x = new SkatMill();
        for (int value : BIDS) {
            CHECKS.equal("bid(" + value + ")", x.bid(value), 0);
            CHECKS.equal("hold() of " + value, x.hold(), 1);
        }
        CHECKS.equal("latestBid() behind all bids", x.latestBid(), 264);
    }

    private static void nextBidGivesTheBids() {
        SkatMill x = new SkatMill();
        Table.run(x, "b48");
        int at = 0;
        for (int number = 0; number <= 263; number++) {
            if (BIDS[at] <= number) {
                at++;
            }
            CHECKS.equal("nextBid(" + number + ")", x.nextBid(number), BIDS[at]);
        }
    }
}
