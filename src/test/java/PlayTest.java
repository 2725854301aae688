/** Promises 16 to 21: what can be played, playing, hands, the trick, points and tricks. */
public final class PlayTest {
    /*
     * Deal 0 by the number 0; diamonds are 0 to 7, hearts 8 to 15, spades 16 to 23, clubs 24 to 31.
     * Player 0, who leads: 5 6 | 10 14 | 17 18 20 23 | 24 27
     * Player 1: 1 | 8 9 11 12 13 | 21 22 | 29 31
     * Player 2: 2 3 4 7 | 15 | 19 | 25 26 28 30
     * The skat: 0 | 16
     */
    private static final String DIAMONDS = "b18 p p a0,0";
    private static final String HEARTS = "b18 p p a1,0";
    private static final String SPADES = "b18 p p a2,0";
    private static final String CLUBS = "b18 p p a3,0";
    private static final String GRAND = "b18 p p a4,0";
    private static final String NULL = "b18 p p a5,0";
    private static final String RAMSCH = "p p p";
    private static final String[] GAMES = {DIAMONDS, HEARTS, SPADES, CLUBS, GRAND, NULL, RAMSCH};
    private static final String[] NO_PLAY = {"d0", "b18", "b18 p p", "b18 p p t", "b18 p p t w1,8", Table.RAMSCH_OVER};

    private static final Checks CHECKS = new Checks();

    public static void main(String[] args) {
        leaderPlaysAnyCard();
        colourIsFollowed();
        playRefusesCardsNotInTheHand();
        trumpsWinTricks();
        ranksInASuit();
        ranksInNull();
        winnerLeads();
        handsGetSmaller();
        inTrickShowsTheTrick();
        pointsAndTricks();
        pointsOfTheSkat();
        pointsOfTheSkatInRamsch();
        CHECKS.end("PlayTest");
    }

    private static void leaderPlaysAnyCard() {
        for (String game : GAMES) {
            SkatMill x = Table.after(game);
            CHECKS.equal("playable() after " + game, x.playable(), Table.set(5, 6, 10, 14, 17, 18, 20, 23, 24, 27));
        }
    }

    private static void playable(String words, int... due) {
        SkatMill x = Table.after(words);
        CHECKS.equal("playable() after " + words, x.playable(), Table.set(due));
        for (int card = 0; card < 32; card++) {
            if ((Table.set(due) & 1L << card) == 0) {
                CHECKS.refused(words, "play(" + card + ")", Checks.STATE);
            } else {
                SkatMill y = Table.after(words);
                int turn = y.onTurn();
                y.play(card);
                CHECKS.equal("the played card's place in the hand, after " + words, y.hand(turn) >> card & 1, 0);
            }
        }
    }

    private static void colourIsFollowed() {
        playable(CLUBS + " 5", 1);
        playable(CLUBS + " 5 1", 2, 3, 4);
        playable(DIAMONDS + " 5", 1, 31);
        playable(DIAMONDS + " 5 31", 2, 3, 4, 7, 15);
        playable(DIAMONDS + " 23", 1, 31);
        playable(NULL + " 5", 1);
        playable(NULL + " 5 1", 2, 3, 4, 7);
        playable(NULL + " 23", 21, 22);
        playable(NULL + " 23 21", 19);
        playable(NULL + " 10 8", 15);
        playable(NULL + " 24", 29, 31);
        playable(GRAND + " 23", 31);
        playable(GRAND + " 23 31", 7, 15);
        playable(RAMSCH + " 23", 31);
        playable(RAMSCH + " 23 31", 7, 15);
        playable(SPADES + " 23", 21, 22, 31);
        playable(SPADES + " 17", 21, 22, 31);
        playable(SPADES + " 17 21", 7, 15, 19);
        playable(HEARTS + " 10", 8, 9, 11, 12, 13, 31);
        playable(HEARTS + " 10 8", 7, 15);
        playable(GRAND + " 24", 29);
        playable(GRAND + " 24 29", 25, 26, 28, 30);
        // Player 2 has no heart but the jack, which is a trump in grand and ramsch.
        playable(GRAND + " 10 8", 2, 3, 4, 7, 15, 19, 25, 26, 28, 30);
        playable(RAMSCH + " 10 8", 2, 3, 4, 7, 15, 19, 25, 26, 28, 30);
        // Player 1 has no diamond left.
        playable(CLUBS + " 5 1 2 6", 8, 9, 11, 12, 13, 21, 22, 29, 31);
    }

    private static void playRefusesCardsNotInTheHand() {
        CHECKS.refused(GRAND + " 5", "play(2)", Checks.STATE);
        CHECKS.refused(GRAND + " 5", "play(5)", Checks.STATE);
        CHECKS.refused(GRAND + " 5", "play(0)", Checks.STATE);
        CHECKS.refused(GRAND + " 5", "play(22)", Checks.STATE);
    }

    private static void trick(String words, int winner) {
        CHECKS.equal("the last play of " + words, Table.run(new SkatMill(), words), winner);
    }

    private static void trumpsWinTricks() {
        trick(GRAND + " 23 31 15", 1);
        trick(GRAND + " 23", -1);
        trick(GRAND + " 23 31", -1);
        trick(RAMSCH + " 23 31 15", 1);
        trick(SPADES + " 23 22 15", 0);
        trick(SPADES + " 23 22 7", 0);
        trick(SPADES + " 20 22 7", 2);
        trick(SPADES + " 20 22 19", 1);
        trick(SPADES + " 20 21 19", 1);
        trick(SPADES + " 23 31 15", 1);
        trick(HEARTS + " 14 13 7", 2);
        trick(HEARTS + " 14 31 15", 1);
        trick(HEARTS + " 10 13 15", 2);
        trick(DIAMONDS + " 6 1 3", 0);
        trick(DIAMONDS + " 5 31 15", 1);
        trick(DIAMONDS + " 10 8 2", 2);
        trick(DIAMONDS + " 10 8 19", 0);
        trick(GRAND + " 10 8 7", 2);
        trick(GRAND + " 14 13 30", 0);
        trick(CLUBS + " 10 13 25", 2);
        trick(CLUBS + " 10 13 30", 2);
        trick(CLUBS + " 27 31 15", 1);
        trick(CLUBS + " 27 29 30", 2);
        trick(CLUBS + " 27 29 26", 1);
        trick(CLUBS + " 27 29 7", 2);
    }

    private static void ranksInASuit() {
        String[] games = {CLUBS, GRAND, RAMSCH};
        for (String game : games) {
            trick(game + " 20 21 19", 1);
            trick(game + " 20 22 19", 1);
            trick(game + " 18 21 19", 1);
            trick(game + " 5 1 4", 0);
            trick(game + " 6 1 4", 0);
        }
        trick(GRAND + " 27 29 28", 1);
        trick(GRAND + " 27 29 30", 2);
        trick(GRAND + " 24 29 28", 1);
        trick(DIAMONDS + " 24 29 25", 1);
        trick(DIAMONDS + " 10 9 19", 0);
        trick(DIAMONDS + " 10 11 19", 1);
    }

    private static void ranksInNull() {
        trick(NULL + " 20 21 19", 0);
        trick(NULL + " 23 21 19", 2);
        trick(NULL + " 18 21 19", 2);
        trick(NULL + " 20 22 19", 1);
        trick(NULL + " 5 1 2", 0);
        trick(NULL + " 5 1 3", 2);
        trick(NULL + " 5 1 7", 2);
        trick(NULL + " 6 1 4", 0);
        trick(NULL + " 10 13 15", 2);
        trick(NULL + " 10 11 15", 1);
        trick(NULL + " 14 12 15", 0);
        trick(NULL + " 24 31 25", 1);
        trick(NULL + " 27 31 26", 0);
        trick(NULL + " 24 29 25", 1);
        trick(NULL + " 24 31 28", 2);
        trick(NULL + " 24 31 30", 2);
        trick(NULL + " 27 29 28", 2);
        // The third player has no card of the suit: the eight beats the seven.
        trick("d24 b18 p p a5,0 8 9 0", 2);
        trick("d123 b18 p p a5,0 16 17 0", 2);
        // A jack of another suit wins nothing: player 1 has no diamond left.
        trick(NULL + " 5 1 2 6 31 7", 0);
    }

    private static void winnerLeads() {
        SkatMill x = Table.after(CLUBS);
        CHECKS.equal("onTurn() ahead of the lead", x.onTurn(), 0);
        x.play(20);
        CHECKS.equal("onTurn() after one card", x.onTurn(), 1);
        x.play(21);
        CHECKS.equal("onTurn() after two cards", x.onTurn(), 2);
        CHECKS.equal("play(19)", x.play(19), 1);
        CHECKS.equal("onTurn() after the trick", x.onTurn(), 1);
        CHECKS.equal("playable() of the winner", x.playable(), x.hand(1));
        x.play(31);
        CHECKS.equal("onTurn() after the winner's lead", x.onTurn(), 2);
        x.play(7);
        CHECKS.equal("onTurn() after player 2", x.onTurn(), 0);
        CHECKS.equal("play(27)", x.play(27), 1);
        x.play(22);
        CHECKS.equal("player 2, without a spade but the jack, takes with a club", x.play(25), -1);
        CHECKS.equal("the last card of the third trick", x.play(17), 2);
        CHECKS.equal("onTurn() after the third trick", x.onTurn(), 2);
    }

    private static void handsGetSmaller() {
        SkatMill x = Table.after(CLUBS);
        CHECKS.equal("hand(0)", x.hand(0), Table.set(5, 6, 10, 14, 17, 18, 20, 23, 24, 27));
        Table.run(x, "5 1");
        CHECKS.equal("hand(0) after 5", x.hand(0), Table.set(6, 10, 14, 17, 18, 20, 23, 24, 27));
        CHECKS.equal("hand(1) after 1", x.hand(1), Table.set(8, 9, 11, 12, 13, 21, 22, 29, 31));
        CHECKS.equal("hand(2) ahead of its card", x.hand(2), Table.set(2, 3, 4, 7, 15, 19, 25, 26, 28, 30));
        SkatMill y = Table.after(Table.RAMSCH_OVER);
        for (int player = 0; player < 3; player++) {
            CHECKS.equal("hand(" + player + ") when the deal is over", y.hand(player), 0);
        }
    }

    private static void inTrick(SkatMill x, String when, int first, int second, int third) {
        CHECKS.equal("inTrick(0) " + when, x.inTrick(0), first);
        CHECKS.equal("inTrick(1) " + when, x.inTrick(1), second);
        CHECKS.equal("inTrick(2) " + when, x.inTrick(2), third);
    }

    private static void inTrickShowsTheTrick() {
        for (String words : NO_PLAY) {
            inTrick(Table.after(words), "after " + words, -1, -1, -1);
        }
        SkatMill x = Table.after(CLUBS);
        inTrick(x, "ahead of the lead", -1, -1, -1);
        x.play(20);
        inTrick(x, "after one card", 20, -1, -1);
        x.play(21);
        inTrick(x, "after two cards", 20, 21, -1);
        x.play(19);
        inTrick(x, "after the trick", -1, -1, -1);
        x.play(31);
        inTrick(x, "after the next lead", 31, -1, -1);
        x.deal(0);
        inTrick(x, "after deal", -1, -1, -1);
    }

    private static void count(SkatMill x, String when, int[] points, int[] tricks) {
        for (int player = 0; player < 3; player++) {
            CHECKS.equal("points(" + player + ") " + when, x.points(player), points[player]);
            CHECKS.equal("tricks(" + player + ") " + when, x.tricks(player), tricks[player]);
        }
    }

    private static void pointsAndTricks() {
        SkatMill x = Table.after(CLUBS);
        count(x, "ahead of the lead", new int[] {0, 0, 0}, new int[] {0, 0, 0});
        Table.run(x, "20 21");
        count(x, "within the trick", new int[] {0, 0, 0}, new int[] {0, 0, 0});
        x.play(19);
        count(x, "after king, ten and queen", new int[] {0, 17, 0}, new int[] {0, 1, 0});
        Table.run(x, "31 7 27");
        count(x, "after two jacks and a queen", new int[] {0, 24, 0}, new int[] {0, 2, 0});
        Table.run(x, "22 25 17");
        count(x, "after an ace", new int[] {0, 24, 11}, new int[] {0, 2, 1});
        x.deal(0);
        count(x, "after deal", new int[] {0, 0, 0}, new int[] {0, 0, 0});
    }

    private static void pointsOfTheSkat() {
        // By the number 1 the skat is the ace of diamonds and the jack of spades; player 2 is the middlehand.
        for (int contract = 0; contract <= 5; contract++) {
            SkatMill x = Table.after("d1 b18 p p");
            count(x, "ahead of announce", new int[] {0, 0, 0}, new int[] {0, 0, 0});
            x.announce(contract, 0);
            count(x, "with contract " + contract, new int[] {0, 0, 13}, new int[] {0, 0, 0});
            SkatMill y = Table.after("d1 b18 p p t w21,28");
            count(y, "ahead of announce", new int[] {0, 0, 0}, new int[] {0, 0, 0});
            y.announce(contract, 0);
            count(y, "with contract " + contract + " and 14 points put away", new int[] {0, 0, 14},
                new int[] {0, 0, 0});
        }
        count(Table.after("d1 p p p"), "as ramsch begins", new int[] {0, 0, 0}, new int[] {0, 0, 0});
    }

    private static int sumOfPoints(SkatMill x) {
        return x.points(0) + x.points(1) + x.points(2);
    }

    private static void pointsOfTheSkatInRamsch() {
        for (int number = 1; number < 40; number++) {
            SkatMill x = Table.after("d" + number + " p p p");
            for (int plays = 0; plays < 29; plays++) {
                x.play(Long.numberOfTrailingZeros(x.playable()));
            }
            int before = sumOfPoints(x);
            int[] points = {x.points(0), x.points(1), x.points(2)};
            int winner = x.play(Long.numberOfTrailingZeros(x.playable()));
            CHECKS.equal("number " + number + ", all points", sumOfPoints(x), 120);
            for (int player = 0; player < 3; player++) {
                CHECKS.equal("number " + number + ", points(" + player + ")", x.points(player),
                    points[player] + (player == winner ? 120 - before : 0));
            }
            CHECKS.equal("number " + number + ", all tricks", x.tricks(0) + x.tricks(1) + x.tricks(2), 10);
        }
    }
}
