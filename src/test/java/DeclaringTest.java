/** Promises 11 to 15: the skat, what is put away, the announcement, the contract, and matadors. */
public final class DeclaringTest {
    // Deal 0 by the number 0: player 1 holds 1 8 9 11 12 13 21 22 29 31, the skat is 0 and 16.
    private static final String DECLARED = "b18 p p";
    private static final String TAKEN = DECLARED + " t";
    private static final String PUT_AWAY = TAKEN + " w1,8";
    private static final String[] PHASES = {"b18 h", "b18", DECLARED, TAKEN, PUT_AWAY, DECLARED + " a4,0",
        Table.RAMSCH_OVER};

    private static final Checks CHECKS = new Checks();

    public static void main(String[] args) {
        takeSkatGivesIt();
        putAwayAnswersPoints();
        putAwayRefusesCardsOfOthers();
        announceFromTheHand();
        announceWithTheSkat();
        forehandLeadsWhoeverDeclares();
        contractOfADeal();
        matadorsOfFirstDeal();
        matadorsCountTheSkatForTheDeclarerAlone();
        matadorsOfLongRuns();
        matadorsStayWhileCardsArePlayed();
        matadorsInRamsch();
        CHECKS.end("DeclaringTest");
    }

    private static void takeSkatGivesIt() {
        SkatMill x = Table.after(DECLARED);
        CHECKS.equal("takeSkat()", x.takeSkat(), Table.set(0, 16));
        CHECKS.equal("the declarer's hand with the skat", x.hand(1),
            Table.set(0, 1, 8, 9, 11, 12, 13, 16, 21, 22, 29, 31));
        CHECKS.equal("hand(0) then", x.hand(0), Table.set(5, 6, 10, 14, 17, 18, 20, 23, 24, 27));
        CHECKS.equal("hand(2) then", x.hand(2), Table.set(2, 3, 4, 7, 15, 19, 25, 26, 28, 30));
        SkatMill y = Table.after("d2147483647 p p b18");
        CHECKS.equal("takeSkat() of another deal", y.takeSkat(), Table.set(7, 25));
        SkatMill z = Table.after("d5 p p b35");
        CHECKS.equal("takeSkat() with card 31", z.takeSkat(), 2181038080L);
    }

    private static void putAwayAnswersPoints() {
        putAway(0, 16, 0);
        putAway(16, 0, 0);
        putAway(1, 8, 0);
        putAway(9, 0, 0);
        putAway(22, 21, 21);
        putAway(11, 12, 7);
        putAway(13, 31, 12);
        putAway(31, 1, 2);
        putAway(29, 22, 21);
    }

    private static void putAway(int one, int other, int points) {
        SkatMill x = Table.after(TAKEN);
        long hand = x.hand(1);
        String call = "putAway(" + one + ", " + other + ")";
        CHECKS.equal(call, x.putAway(one, other), points);
        CHECKS.equal("the hand after " + call, x.hand(1), hand & ~Table.set(one, other));
        CHECKS.equal("matadors(1, 3) after " + call, x.matadors(1, 3), 1);
        CHECKS.equal("points(1) after " + call, x.points(1), 0);
        x.announce(4, 0);
        CHECKS.equal("points(1) after " + call + " and announce", x.points(1), points);
    }

    private static void putAwayRefusesCardsOfOthers() {
        int[][] notHeld = {{1, 2}, {2, 1}, {2, 3}, {31, 30}, {5, 0}};
        for (int[] pair : notHeld) {
            CHECKS.refused(TAKEN, "putAway(" + pair[0] + "," + pair[1] + ")", Checks.STATE);
        }
    }

    private static void announceFromTheHand() {
        for (int contract = 0; contract <= 5; contract++) {
            for (int extra = 0; extra <= 3; extra++) {
                announce(DECLARED, contract, extra, contract < 5 || extra == 0 || extra == 3);
            }
        }
    }

    private static void announceWithTheSkat() {
        for (int contract = 0; contract <= 5; contract++) {
            for (int extra = 0; extra <= 3; extra++) {
                announce(PUT_AWAY, contract, extra, extra == 0 || contract == 5 && extra == 3);
            }
        }
    }

    private static void announce(String words, int contract, int extra, boolean possible) {
        String call = "announce(" + contract + "," + extra + ")";
        if (!possible) {
            CHECKS.refused(words, call, Checks.STATE);
            return;
        }
        SkatMill x = Table.after(words);
        CHECKS.equal(call + " after " + words, x.announce(contract, extra), 0);
        CHECKS.equal("contract() after " + call, x.contract(), contract);
        CHECKS.equal("phase() after " + call, x.phase(), 5);
        CHECKS.equal("onTurn() after " + call, x.onTurn(), 0);
        CHECKS.equal("declarer() after " + call, x.declarer(), 1);
        CHECKS.equal("latestBid() after " + call, x.latestBid(), 18);
    }

    private static void forehandLeadsWhoeverDeclares() {
        String[] biddings = {"b18 p p", "p b18 p", "p p b18"};
        for (String bidding : biddings) {
            CHECKS.equal("the leader of deal 0 after " + bidding, Table.run(new SkatMill(), bidding + " a4,0"), 0);
            CHECKS.equal("the leader of deal 1 after " + bidding, Table.run(new SkatMill(), "d0 " + bidding + " a4,0"),
                1);
            CHECKS.equal("the leader of deal 2 after " + bidding,
                Table.run(new SkatMill(), "d0 d0 " + bidding + " a4,0"), 2);
        }
    }

    private static void contractOfADeal() {
        int[] due = {-1, -1, -1, -1, -1, 4, 6};
        for (int i = 0; i < PHASES.length; i++) {
            CHECKS.equal("contract() after " + PHASES[i], Table.after(PHASES[i]).contract(), due[i]);
        }
        CHECKS.equal("contract() in ramsch", Table.after("p p p").contract(), 6);
        CHECKS.equal("contract() of the next deal", Table.after("p p p d1").contract(), -1);
    }

    private static void matadors(String words, int player, int... due) {
        SkatMill x = Table.after(words);
        for (int contract = 0; contract < due.length; contract++) {
            CHECKS.equal("matadors(" + player + ", " + contract + ") after " + words, x.matadors(player, contract),
                due[contract]);
        }
    }

    private static void matadorsOfFirstDeal() {
        matadors("d0", 0, -1, -1, -1, -1, -1);
        matadors("d0", 1, 1, 1, 1, 1, 1);
        matadors("d0", 2, -2, -2, -2, -2, -2);
        // Number 1: player 0 has no jack and no diamond; of hearts the ace lacks, of spades it is there.
        matadors("d1", 0, -11, -5, -4, -4, -4);
        matadors("d1", 1, 1, 1, 1, 1, 1);
        matadors("d1", 2, -2, -2, -2, -2, -2);
        // The largest number: clubs' and spades' jacks, not the hearts'.
        matadors("d2147483647", 0, 2, 2, 2, 2, 2);
        matadors("d2147483647", 1, -11, -4, -5, -4, -4);
    }

    private static void matadorsCountTheSkatForTheDeclarerAlone() {
        // By the number 931367 player 2, the middlehand of deal 1, has the jacks 31 and 15 and all other spades;
        // the skat is 7 and 23.
        String number = "d931367";
        matadors(number, 2, 1, 1, 1, 1, 1);
        matadors(number + " b18", 2, 1, 1, 1, 1, 1);
        matadors(number + " b18 p p", 2, 4, 4, 11, 4, 4);
        matadors(number + " b18 p p t", 2, 4, 4, 11, 4, 4);
        matadors(number + " b18 p p t w31,7", 2, 4, 4, 11, 4, 4);
        matadors(number + " b18 p p t w7,23 a3,0", 2, 4, 4, 11, 4, 4);
        matadors(number + " b18 p p a2,0", 2, 4, 4, 11, 4, 4);
        matadors(number + " p p b18", 2, 1, 1, 1, 1, 1);
        matadors(number + " p p b18", 1, -1, -1, -1, -1, -1);
        matadors(number + " p b18 p t w1,2", 0, -1, -1, -1, -1, -1);
    }

    private static void matadorsOfLongRuns() {
        matadors("d931367", 0, -5, -8, -11, -4, -4);
        matadors("d931367", 1, -4, -4, -11, -5, -4);
        // Player 0 has the four jacks and all hearts but the seven, player 1 the heart seven alone.
        matadors("d4124898", 0, 4, 10, 4, 4, 4);
        matadors("d4124898", 1, -6, -10, -6, -4, -4);
        matadors("d4124898", 2, -4, -11, -4, -6, -4);
        matadors("d354", 0, 4, 7, 4, 4, 4);
        matadors("d22616", 2, 4, 8, 4, 4, 4);
    }

    private static void matadorsStayWhileCardsArePlayed() {
        String begun = "b18 p p t w31,0 a4,0";
        String[] plays = {"", " 23", " 23 21", " 5", " 5 1", " 5 1 2", " 5 1 2 24 29 30"};
        matadors(begun, 0, -1, -1, -1, -1, -1);
        matadors("b18 p p a4,0 23 31 7", 0, -1, -1, -1, -1, -1);
        matadors("b18 p p a4,0 23 31 7", 1, 1, 1, 1, 1, 1);
        matadors("b18 p p a4,0 23 31 7", 2, -2, -2, -2, -2, -2);
        for (String words : plays) {
            matadors(begun + words, 1, 1, 1, 1, 1, 1);
        }
        String over = "d859 p p b18 a0,0 31 17 23 7 10 0 6 26 3 5 27 4 2 18 8 1 11 16 14 12 13 30 28 29 25 19 20"
            + " 24 22 21";
        SkatMill x = Table.after("d859");
        SkatMill y = Table.after(over);
        for (int contract = 0; contract < 5; contract++) {
            CHECKS.equal("matadors(0, " + contract + ") when all is played", y.matadors(0, contract),
                x.matadors(0, contract));
        }
        matadors(over, 1, 1, 1, 1, 1, 1);
    }

    private static void matadorsInRamsch() {
        matadors("d931367 p p p", 2, 1, 1, 1, 1, 1);
        matadors("d931367 p p p", 0, -5, -8, -11, -4, -4);
        matadors("d931367 p p p 0", 1, -4, -4, -11, -5, -4);
    }
}
