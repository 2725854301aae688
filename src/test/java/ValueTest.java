/** Promises 22 and 23 while a deal goes on: what a game is worth now, and that nothing is scored ahead of its end. */
public final class ValueTest {
    private static final int[] BASE = {9, 10, 11, 12, 24};
    private static final String TEN_TRICKS =
        "31 17 23 7 10 0 6 26 3 5 27 4 2 18 8 1 11 16 14 12 13 30 28 29 25 19 20 24 22 21";
    private static final String NO_TRICKS =
        "12 8 11 10 5 9 30 15 29 26 13 27 28 23 1 22 17 20 6 0 3 18 21 25 14 16 2 7 19 4";
    private static final String RAMSCH_ALL_TRICKS =
        "29 1 30 14 10 8 26 24 19 31 15 7 27 20 6 21 18 17 23 0 5 25 13 2 22 3 9 16 4 12";

    private static final Checks CHECKS = new Checks();

    public static void main(String[] args) {
        valueFromTheHand();
        valueWithTheSkat();
        valueWithMatadors();
        overbidIsRaised();
        nullStaysAsItIs();
        valueGrowsWithPointsAndTricks();
        valueInRamsch();
        scoresOverManyDeals();
        scoresComeWithTheLastCard();
        CHECKS.end("ValueTest");
    }

    private static void value(String words, int due) {
        CHECKS.equal("value() after " + words, Table.after(words).value(), due);
    }

    /** In deal 0 player 1 has one matador: times 1 + 1 for the game, 1 for the hand, and what is announced. */
    private static void valueFromTheHand() {
        int[] times = {3, 5, 7, 8};
        for (int contract = 0; contract < 5; contract++) {
            for (int extra = 0; extra <= 3; extra++) {
                value("b18 p p a" + contract + "," + extra, BASE[contract] * times[extra]);
            }
        }
        value("b18 p p a5,0", 35);
        value("b18 p p a5,3", 59);
    }

    private static void valueWithTheSkat() {
        for (int contract = 0; contract < 5; contract++) {
            value("b18 p p t w1,8 a" + contract + ",0", BASE[contract] * 2);
            value("b18 p p t w31,22 a" + contract + ",0", BASE[contract] * 2);
        }
        value("b18 p p t w1,8 a5,0", 23);
        value("b18 p p t w1,8 a5,3", 46);
    }

    private static void valueWithMatadors() {
        // By the number 931367 player 2 has all trumps of spades with the skat.
        value("d931367 b18 p p a2,0", 11 * 13);
        value("d931367 b18 p p a2,3", 11 * 18);
        value("d931367 b18 p p t w7,23 a2,0", 11 * 12);
        value("d931367 b18 p p t w7,23 a4,0", 24 * 5);
        value("d931367 b18 p p a4,3", 24 * 11);
        // Player 1, the forehand of deal 1, has the clubs' jack and finds the spades' jack in the skat.
        value("d1 p p b18 a0,0", 9 * 4);
        value("d1 p p b18 a4,0", 24 * 4);
        // Player 0 lacks all trumps of diamonds and finds their ace and a jack in the skat.
        value("d1 p b18 p a0,0", 9 * 3);
        value("d1 p b18 p t w9,10 a0,0", 9 * 2);
        value("d4124898 p b18 p a1,0", 10 * 12);
        value("d4124898 b18 p p a1,0", 10 * 13);
        value("d4124898 p p b18 a1,0", 10 * 12);
    }

    /** In deal 0 player 1 plays with one matador, from the hand times 3, with the skat times 2. */
    private static void overbidIsRaised() {
        value("b27 p p a0,0", 27);
        value("b30 p p a0,0", 36);
        value("b36 p p a0,0", 36);
        value("b40 p p a0,0", 45);
        value("b24 p p a3,0", 36);
        value("b36 p p a3,0", 36);
        value("b40 p p a3,0", 48);
        value("b59 p p t w1,8 a0,0", 63);
        value("b59 p p t w1,8 a1,0", 60);
        value("b59 p p t w1,8 a2,0", 66);
        value("b59 p p t w1,8 a3,0", 60);
        value("b59 p p t w1,8 a4,0", 72);
        value("b48 p p t w1,8 a4,0", 48);
        value("b50 p p t w1,8 a4,0", 72);
        value("b264 p p a0,0", 270);
        value("b264 p p a1,0", 270);
        value("b264 p p a2,0", 264);
        value("b264 p p a3,0", 264);
        value("b264 p p a4,0", 264);
        value("b264 p p a4,3", 264);
        value("b216 p p a4,0", 216);
        value("b23 p p a0,0", 27);
    }

    private static void nullStaysAsItIs() {
        value("b264 p p a5,0", 35);
        value("b264 p p a5,3", 59);
        value("b264 p p t w1,8 a5,0", 23);
        value("b264 p p t w1,8 a5,3", 46);
        value("b24 p p t w1,8 a5,0", 23);
    }

    /** One side has 90 points, then all ten tricks; the declarer in the first run, the others in the second. */
    private static void valueGrowsWithPointsAndTricks() {
        int[] own = growth("d859 p p b18 a0,0", TEN_TRICKS, 1, 9, 3);
        CHECKS.equal("the first value", own[0], 27);
        CHECKS.equal("the value ahead of the last trick", own[1], 36);
        CHECKS.equal("the last value", own[2], 45);
        int[] others = growth("d2820 p b18 p a3,0", NO_TRICKS, 0, 12, 3);
        CHECKS.equal("the first value", others[0], 36);
        CHECKS.equal("the value ahead of the last trick", others[1], 48);
        CHECKS.equal("the last value", others[2], 60);
    }

    private static int[] growth(String begin, String plays, int declarer, int base, int times) {
        SkatMill x = Table.after(begin);
        int[] seen = {x.value(), 0, 0};
        for (String card : plays.split(" ")) {
            seen[1] = x.value();
            Table.run(x, card);
            int own = x.points(declarer);
            int others = x.points(0) + x.points(1) + x.points(2) - own;
            int schneider = own >= 90 || others >= 90 ? 1 : 0;
            int schwarz = x.phase() == 6 ? 1 : 0;
            CHECKS.equal("value() of " + begin + " with " + own + " to " + others, x.value(),
                base * (times + schneider + schwarz));
        }
        seen[2] = x.value();
        return seen;
    }

    private static void valueInRamsch() {
        value("p p p", 0);
        value("p p p 5", 0);
        value("p p p 5 1 2", 10);
        value("p p p 20 21 19", 17);
        value("p p p 20 21 19 31 7 23", 23);
        SkatMill x = Table.after("d2293 p p p");
        for (String card : RAMSCH_ALL_TRICKS.split(" ")) {
            Table.run(x, card);
            CHECKS.equal("value() in ramsch after " + card, x.value(),
                Math.max(x.points(0), Math.max(x.points(1), x.points(2))));
        }
        CHECKS.equal("value() when ramsch is over", x.value(), 120);
    }

    private static void scores(SkatMill x, String when, int... due) {
        for (int player = 0; player < 3; player++) {
            CHECKS.equal("score(" + player + ") " + when, x.score(player), due[player]);
        }
    }

    private static void scoresOverManyDeals() {
        SkatMill x = new SkatMill();
        scores(x, "of a new object", 0, 0, 0);
        Table.run(x, "d859 p p b18 a0,0 " + TEN_TRICKS);
        scores(x, "after a game that is won", 0, 45, 0);
        Table.run(x, "d0 p p p 30");
        scores(x, "within the next deal", 0, 45, 0);
        Table.run(x, "d0");
        scores(x, "after a deal that was broken off", 0, 45, 0);
        Table.run(x, "d2820 p b18 p a3,0 " + NO_TRICKS);
        scores(x, "after a game that is lost", -120, 45, 0);
        Table.run(x, "d0 d0 d2293 p p p " + RAMSCH_ALL_TRICKS);
        scores(x, "after ramsch", -240, 45, 0);
        Table.run(x, "d0 d0 d859 p p b18 a0,0 " + TEN_TRICKS);
        scores(x, "after the first game again", -240, 90, 0);
    }

    private static void scoresComeWithTheLastCard() {
        String[] runs = {"d859 p p b18 a0,0 " + TEN_TRICKS, "d2820 p b18 p a3,0 " + NO_TRICKS,
            "d2293 p p p " + RAMSCH_ALL_TRICKS};
        int[][] due = {{0, 45, 0}, {-120, 0, 0}, {-120, 0, 0}};
        for (int i = 0; i < runs.length; i++) {
            int last = runs[i].lastIndexOf(' ');
            SkatMill x = Table.after(runs[i].substring(0, last));
            scores(x, "ahead of the last card", 0, 0, 0);
            Table.run(x, runs[i].substring(last));
            scores(x, "after the last card", due[i]);
        }
    }
}
