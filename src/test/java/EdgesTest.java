/**
 * The edges that the document's terms name, but for the margins of winning and losing: the first and the last card,
 * player 0 after player 2, the least and the greatest number, empty and complete tricks, empty hands, the first and
 * the last trick, and the shortest and the longest rows of matadors.
 */
public final class EdgesTest {
    private static final long ALL_CARDS = 0xffffffffL;
    private static final String[] TO_PLAY_OF_ALL = {"b18 p p a0,0", "b18 p p a1,0", "b18 p p a2,0", "b18 p p a3,0",
        "b18 p p a4,0", "b18 p p a5,0", "p p p"};

    private static final Checks CHECKS = new Checks();

    public static void main(String[] args) {
        firstAndLastCard();
        pointsOfEachCard();
        eightCardsToASuit();
        deckIsFreshEachTime();
        allCardsAreDealt();
        playerZeroBidsAfterPlayerTwo();
        playerZeroPlaysAfterPlayerTwo();
        winnerOfATrickByLeaderAndPlace();
        leaderOfATrickPlaysAnyCard();
        trickFromEmptyToComplete();
        forehandLeadsToTheFirstTrick();
        lastTrick();
        lastTrickByWinner();
        matadorsOfEachLength();
        shortestAndLongestValues();
        CHECKS.end("EdgesTest");
    }

    // ---- cards

    private static void firstAndLastCard() {
        // Deal 0: player 1 holds the cards 0 and 31 with the skat.
        CHECKS.answer("b18 p p t", "putAway(0,31)", 2);
        CHECKS.answer("b18 p p t", "putAway(31,0)", 2);
        CHECKS.answer("b18 p p t w0,31", "hand(1)", Table.set(1, 8, 9, 11, 12, 13, 16, 21, 22, 29));
        CHECKS.answer("d2293 p p p 29 1 30 14 10 8 26 24 19", "play(31)", -1);
        CHECKS.answer("d2293 p p p 29 1 30 14 10 8 26 24 19 31", "inTrick(0)", 31);
        CHECKS.answer("d2293 p p p 29 1 30 14 10 8 26 24 19 31 15 7 27 20 6 21 18 17 23", "play(0)", -1);
        CHECKS.answer("d2293 p p p 29 1 30 14 10 8 26 24 19 31 15 7 27 20 6 21 18 17 23 0", "inTrick(1)", 0);
        // The bit of card 31 makes no number below 0.
        CHECKS.answer("", "hand(1)", 2690661122L);
        CHECKS.answer("d5 p p b35", "takeSkat()", 2181038080L);
        CHECKS.answer("d2293 p p p 29 1 30 14 10 8 26 24 19", "playable()", Table.after(
            "d2293 p p p 29 1 30 14 10 8 26 24 19").hand(0));
    }

    /** Each card is put away together with one that counts nothing. */
    private static void pointsOfEachCard() {
        int[] due = {
            0, 0, 0, 3, 4, 10, 11, 2,
            0, 0, 0, 3, 4, 10, 11, 2,
            0, 0, 0, 3, 4, 10, 11, 2,
            0, 0, 0, 3, 4, 10, 11, 2};
        long seen = 0;
        for (int number = 0; number < 40; number++) {
            String words = "d" + number + " p p b18 t";
            long held = Table.after(words).hand(1);
            for (int card = 0; card < 32; card++) {
                int nothing = held(held & ~(1L << card) & 0x07070707L);
                if (nothing >= 0 && (held & 1L << card) != 0) {
                    CHECKS.answer(words, "putAway(" + card + "," + nothing + ")", due[card]);
                    CHECKS.answer(words, "putAway(" + nothing + "," + card + ")", due[card]);
                    seen |= 1L << card;
                }
            }
        }
        CHECKS.equal("the cards that were put away", seen, ALL_CARDS);
    }

    private static int held(long set) {
        return set == 0 ? -1 : Long.numberOfTrailingZeros(set);
    }

    /** In null there are no trumps: what follows is told by the card's number divided by 8 alone. */
    private static void eightCardsToASuit() {
        long led = 0;
        for (int number = 1; number <= 60; number++) {
            String words = "d" + number + " b18 p p a5,0";
            SkatMill dealt = Table.after(words);
            long hand = dealt.hand(2);
            for (int card = 0; card < 32; card++) {
                if ((dealt.playable() & 1L << card) != 0) {
                    long suit = hand & 0xffL << card / 8 * 8;
                    CHECKS.answer(words + " " + card, "playable()", suit == 0 ? hand : suit);
                    led |= 1L << card;
                }
            }
        }
        CHECKS.equal("the cards that were led", led, ALL_CARDS);
    }

    // ---- dealing

    private static void deckIsFreshEachTime() {
        String[] before = {"", "d1", "d2147483647 b18", "p p p 5 1 2", "b18 p p t w0,31", Table.RAMSCH_OVER};
        int[] numbers = {0, 1, 65535, 65536, Integer.MAX_VALUE - 1, Integer.MAX_VALUE};
        for (int number : numbers) {
            SkatMill fresh = Table.after("d" + number);
            for (String words : before) {
                SkatMill x = Table.after(words);
                x.deal(number);
                for (int player = 0; player < 3; player++) {
                    CHECKS.equal("hand(" + player + ") by " + number + " after " + words, x.hand(player),
                        fresh.hand(player));
                }
            }
        }
        CHECKS.same("deal 3 by the number 0", Table.look(Table.after("d5 d6 d0")), Table.look(new SkatMill()));
    }

    private static void allCardsAreDealt() {
        for (int shift = 0; shift < 31; shift++) {
            allCardsAreDealt(1 << shift);
            allCardsAreDealt((1 << shift) - 1);
        }
        allCardsAreDealt(Integer.MAX_VALUE);
    }

    private static void allCardsAreDealt(int number) {
        SkatMill x = Table.after("d" + number + " p p b18");
        long all = 0;
        for (int player = 0; player < 3; player++) {
            CHECKS.equal("the cards of player " + player + " by " + number, Long.bitCount(x.hand(player)), 10);
            all |= x.hand(player);
        }
        long skat = x.takeSkat();
        CHECKS.equal("the cards of the skat by " + number, Long.bitCount(skat), 2);
        CHECKS.equal("all cards by " + number, all | skat, ALL_CARDS);
    }

    // ---- player 0 comes next after player 2

    private static void playerZeroBidsAfterPlayerTwo() {
        CHECKS.answer("d1", "deal(1)", 2);
        CHECKS.answer("d1 d1", "deal(1)", 0);
        // Deal 1: forehand 1, middlehand 2, rearhand 0.
        CHECKS.answer("d1", "onTurn()", 2);
        CHECKS.answer("d1", "bid(18)", 1);
        CHECKS.answer("d1 b18", "hold()", 2);
        CHECKS.answer("d1 b18", "pass()", 0);
        CHECKS.answer("d1 b18 p", "bid(20)", 2);
        CHECKS.answer("d1 b18 p", "pass()", 2);
        CHECKS.answer("d1", "pass()", 0);
        CHECKS.answer("d1 p", "pass()", 1);
        CHECKS.answer("d1 p p", "pass()", 1);
        CHECKS.answer("d1 p b18 p", "declarer()", 0);
        // Deal 2: forehand 2, middlehand 0, rearhand 1.
        CHECKS.answer("d1 d1", "onTurn()", 0);
        CHECKS.answer("d1 d1", "bid(18)", 2);
        CHECKS.answer("d1 d1 b18", "hold()", 0);
        CHECKS.answer("d1 d1 b18", "pass()", 1);
        CHECKS.answer("d1 d1 b18 p", "bid(20)", 0);
        CHECKS.answer("d1 d1 b18 p", "pass()", 0);
        CHECKS.answer("d1 d1", "pass()", 1);
        CHECKS.answer("d1 d1 p", "pass()", 2);
        CHECKS.answer("d1 d1 p p", "pass()", 2);
        CHECKS.answer("d1 d1 b18 p p", "declarer()", 0);
    }

    /** The words for a deal by the number in which this player is the forehand: deal 3, 4 or 5. */
    private static String dealTo(int forehand, int number) {
        return "d0 d0" + " d0".repeat(forehand) + " d" + number;
    }

    private static void playerZeroPlaysAfterPlayerTwo() {
        for (int forehand = 0; forehand < 3; forehand++) {
            SkatMill x = Table.after(dealTo(forehand, 1) + " p p p");
            for (int place = 0; place < 3; place++) {
                CHECKS.equal("onTurn() at place " + place + " behind forehand " + forehand, x.onTurn(),
                    (forehand + place) % 3);
                long before = x.hand((forehand + place) % 3);
                int card = held(x.playable());
                x.play(card);
                CHECKS.equal("the hand of the player who played", x.hand((forehand + place) % 3),
                    before & ~(1L << card));
            }
        }
    }

    /** The forehand leads a jack in ramsch, and who has the jack of clubs plays it, and so wins. */
    private static void winnerOfATrickByLeaderAndPlace() {
        boolean[] seen = new boolean[9];
        for (int number = 1; number <= 60; number++) {
            for (int forehand = 0; forehand < 3; forehand++) {
                SkatMill x = Table.after(dealTo(forehand, number) + " p p p");
                long jacks = x.hand(forehand) & 0x80808080L;
                if (jacks == 0 || ((x.hand(0) | x.hand(1) | x.hand(2)) & 1L << 31) == 0) {
                    continue;
                }
                int owner = (x.hand(0) >> 31 & 1) == 1 ? 0 : (x.hand(1) >> 31 & 1) == 1 ? 1 : 2;
                int winner = -1;
                for (int place = 0; place < 3; place++) {
                    CHECKS.equal("play() ahead of the third card", winner, -1);
                    long cards = place == 0 ? jacks : x.playable();
                    winner = x.play(63 - Long.numberOfLeadingZeros(x.onTurn() == owner ? 1L << 31 : cards));
                }
                String of = " by " + number + " with forehand " + forehand;
                CHECKS.equal("the winner of the trick" + of, winner, owner);
                CHECKS.equal("onTurn() behind the trick" + of, x.onTurn(), owner);
                for (int player = 0; player < 3; player++) {
                    CHECKS.equal("tricks(" + player + ")" + of, x.tricks(player), player == owner ? 1 : 0);
                }
                seen[forehand * 3 + owner] = true;
            }
        }
        for (int i = 0; i < seen.length; i++) {
            CHECKS.equal("leader " + i / 3 + " and winner " + i % 3 + " came", seen[i] ? 1 : 0, 1);
        }
    }

    // ---- tricks and hands

    private static void leaderOfATrickPlaysAnyCard() {
        for (String words : TO_PLAY_OF_ALL) {
            SkatMill x = Table.after(words);
            for (int plays = 0; plays < 30; plays++) {
                if (plays % 3 == 0) {
                    CHECKS.equal("playable() to an empty trick, " + plays + " cards behind " + words, x.playable(),
                        x.hand(x.onTurn()));
                    CHECKS.equal("the leader's cards, " + plays + " cards behind " + words,
                        Long.bitCount(x.hand(x.onTurn())), 10 - plays / 3);
                }
                x.play(held(x.playable()));
            }
        }
    }

    private static void trickFromEmptyToComplete() {
        for (String words : TO_PLAY_OF_ALL) {
            SkatMill x = Table.after(words);
            int[] lies = {-1, -1, -1};
            for (int plays = 0; plays < 30; plays++) {
                trick(x, words + " and " + plays + " cards", lies);
                int card = held(x.playable());
                int winner = x.play(card);
                if (plays % 3 < 2) {
                    lies[plays % 3] = card;
                    CHECKS.equal("play() of card " + plays + " behind " + words, winner, -1);
                } else {
                    lies = new int[] {-1, -1, -1};
                    CHECKS.equal("play() of card " + plays + " behind " + words + " tells a winner",
                        winner >= 0 && winner <= 2 ? 1 : 0, 1);
                }
            }
            trick(x, words + " and all cards", lies);
        }
    }

    private static void trick(SkatMill x, String when, int[] due) {
        for (int place = 0; place < 3; place++) {
            CHECKS.equal("inTrick(" + place + ") behind " + when, x.inTrick(place), due[place]);
        }
    }

    private static void forehandLeadsToTheFirstTrick() {
        String[] ways = {"b18 p p a4,0", "p b18 p a4,0", "p p b18 a4,0", "b18 p p t", "p p p"};
        for (int forehand = 0; forehand < 3; forehand++) {
            for (String way : ways) {
                SkatMill x = Table.after(dealTo(forehand, 1) + " " + way);
                if (x.phase() == 3) {
                    long own = x.hand(x.declarer());
                    x.putAway(held(own), 63 - Long.numberOfLeadingZeros(own));
                    CHECKS.equal("announce() with forehand " + forehand, x.announce(2, 0), forehand);
                }
                CHECKS.equal("who leads after " + way, x.onTurn(), forehand);
                CHECKS.equal("the lead after " + way, x.playable(), x.hand(forehand));
            }
        }
    }

    private static void lastTrick() {
        String ahead = "d2293 p p p 29 1 30 14 10 8 26 24 19 31 15 7 27 20 6 21 18 17 23 0 5 25 13 2 22 3 9";
        CHECKS.answer(ahead, "playable()", 1L << 16);
        CHECKS.answer(ahead, "hand(0)", 1L << 16);
        CHECKS.answer(ahead, "hand(1)", 1L << 4);
        CHECKS.answer(ahead, "hand(2)", 1L << 12);
        // The leader's hand is empty, and the deal is not over; no suit has to be followed that is not there.
        CHECKS.answer(ahead + " 16", "hand(0)", 0);
        CHECKS.answer(ahead + " 16", "phase()", 5);
        CHECKS.answer(ahead + " 16", "onTurn()", 1);
        CHECKS.answer(ahead + " 16", "playable()", 1L << 4);
        CHECKS.answer(ahead + " 16", "tricks(0)", 9);
        CHECKS.answer(ahead + " 16 4", "hand(1)", 0);
        CHECKS.answer(ahead + " 16 4", "onTurn()", 2);
        CHECKS.answer(ahead + " 16 4", "playable()", 1L << 12);
        CHECKS.answer(ahead + " 16 4", "score(0)", 0);
        CHECKS.answer(ahead + " 16 4", "play(12)", 0);
        String over = ahead + " 16 4 12";
        for (int player = 0; player < 3; player++) {
            CHECKS.answer(over, "hand(" + player + ")", 0);
            CHECKS.answer(over, "inTrick(" + player + ")", -1);
            CHECKS.answer(over, "tricks(" + player + ")", player == 0 ? 10 : 0);
            CHECKS.answer(over, "points(" + player + ")", player == 0 ? 120 : 0);
            CHECKS.answer(over, "score(" + player + ")", player == 0 ? -120 : 0);
        }
        CHECKS.answer(over, "phase()", 6);
        CHECKS.answer(over, "onTurn()", -1);
        CHECKS.answer(over, "contract()", 6);
        CHECKS.answer(over, "declarer()", -1);
        CHECKS.refused(over, "playable()", Checks.STATE);
        CHECKS.answer(over, "deal(0)", 2);
    }

    private static void lastTrickByWinner() {
        CHECKS.answer("d894 p p p 23 7 15 10 12 9 3 5 4 13 14 8 26 30 28 19 16 20 21 22 1 2 0 27 17 31 24 11 25",
            "play(29)", 0);
        CHECKS.answer("d266 p p p 1 6 2 27 29 21 22 19 16 30 15 28 23 25 31 4 3 5 11 10 12 0 8 24 7 14 18 20 9",
            "play(17)", 1);
        CHECKS.answer("d68 p p p 24 26 29 4 5 0 2 21 18 9 14 10 25 16 30 31 8 23 1 22 17 3 28 15 11 6 12 27 20",
            "play(19)", 2);
    }

    // ---- matadors

    /** Of the forehand of deal 1, who is the declarer: with and without 1 to 4 in grand, 1 to 11 in suit games. */
    private static void matadorsOfEachLength() {
        int[][] grands = {{6, 1}, {1, 2}, {4, 3}, {95, 4}, {14, -1}, {19, -2}, {3, -3}, {9, -4}};
        for (int[] row : grands) {
            matadors(row[0], 4, row[1]);
        }
        int[][] suits = {{6, 0, 1}, {1, 0, 2}, {4, 0, 3}, {95, 0, 4}, {105, 2, 5}, {95, 3, 6}, {1281, 1, 7},
            {388, 0, 8}, {90182, 1, 9}, {35814, 0, 10}, {2388246, 3, 11}, {14, 0, -1}, {19, 0, -2}, {3, 0, -3},
            {9, 0, -4}, {9, 3, -5}, {9, 1, -6}, {11, 3, -7}, {54, 3, -8}, {74, 0, -9}, {99, 2, -10}, {101, 2, -11}};
        for (int[] row : suits) {
            matadors(row[0], row[1], row[2]);
        }
    }

    /** With the matadors, and the value in a hand game, which counts them with or without, the game and the hand. */
    private static void matadors(int number, int contract, int due) {
        int[] base = {9, 10, 11, 12, 24};
        String declared = "d" + number + " p p b18";
        CHECKS.answer(declared, "matadors(1," + contract + ")", due);
        CHECKS.answer(declared + " a" + contract + ",0", "matadors(1," + contract + ")", due);
        CHECKS.answer(declared + " a" + contract + ",0", "value()", base[contract] * (Math.abs(due) + 2));
    }

    private static void shortestAndLongestValues() {
        // Deal 0: one matador. The number 2388246: eleven, with all there is to announce.
        CHECKS.answer("b18 p p t w0,16 a0,0", "value()", 18);
        CHECKS.answer("b18 p p t w0,16 a5,0", "value()", 23);
        CHECKS.answer("d2388246 p p b18 a3,3", "value()", 12 * 18);
        CHECKS.answer("d95 p p b18 a4,3", "value()", 24 * 11);
        CHECKS.answer("p p p", "value()", 0);
        CHECKS.answer(Table.RAMSCH_OVER, "value()", 120);
    }
}
