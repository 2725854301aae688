/**
 * Games just won, just lost and just overbid: pairs of runs that differ by one point, one bid or one trick, and ramsch
 * that the skat decides.
 */
public final class MarginsTest {
    private static final Checks CHECKS = new Checks();

    public static void main(String[] args) {
        wonBySixtyOnePoints();
        schneiderByNinetyPoints();
        schneiderOfTheOthersByNinetyPoints();
        announcedSchneiderByNinetyPoints();
        overbidUnlessSchneiderIsReached();
        overbidByEachBid();
        nullByEachBid();
        nullLostByOneTrick();
        wonByAllTenTricks();
        schwarzByTenTricks();
        schwarzOfTheOthersByTenTricks();
        ramschDecidedByTheSkat();
        CHECKS.end("MarginsTest");
    }

    private static int declarerOf(String begin) {
        return Table.after(begin).declarer();
    }

    /** A whole deal with the declarer's points, the value, and the declarer's score. */
    private static void over(String begin, String plays, int points, int value, int score) {
        String words = begin + " " + plays;
        int declarer = declarerOf(begin);
        SkatMill x = Table.after(words);
        CHECKS.equal("phase() after " + words, x.phase(), 6);
        CHECKS.equal("the declarer's points after " + words, x.points(declarer), points);
        CHECKS.equal("value() after " + words, x.value(), value);
        for (int player = 0; player < 3; player++) {
            CHECKS.equal("score(" + player + ") after " + words, x.score(player), player == declarer ? score : 0);
        }
    }

    // ---- one point: a king and a queen of one suit change places in the two runs of each pair

    private static void wonBySixtyOnePoints() {
        over("d1999 p p b18 a3,0",
            "31 25 27 23 29 28 7 26 15 12 11 9 1 6 0 24 16 2 20 18 3 19 22 4 10 14 8 5 17 13", 60, 48, -96);
        over("d1999 p p b18 a3,0",
            "31 25 27 23 29 28 7 26 15 12 11 9 1 6 0 24 16 2 20 18 4 19 22 3 10 14 8 5 17 13", 61, 48, 48);
        over("d2101 p p b18 t w14,22 a1,0",
            "1 3 5 15 9 8 7 13 30 12 23 21 26 28 25 20 18 19 27 24 29 4 2 0 6 17 10 11 31 16", 60, 30, -60);
        over("d2101 p p b18 t w14,22 a1,0",
            "1 3 5 15 9 8 7 13 30 12 23 21 26 27 25 20 18 19 28 24 29 4 2 0 6 17 10 11 31 16", 61, 30, 30);
        over("d2003 b18 p p a4,0",
            "7 6 8 0 5 2 14 9 11 22 19 16 30 25 27 4 10 1 20 13 21 15 3 26 18 17 29 28 24 12", 60, 96, -192);
        over("d2003 b18 p p a4,0",
            "7 6 8 0 5 2 14 9 11 22 19 16 30 25 28 4 10 1 20 13 21 15 3 26 18 17 29 27 24 12", 61, 96, 96);
        over("d1547 p p b18 t w15,25 a4,0",
            "4 5 2 7 23 31 8 10 12 21 20 22 24 29 26 19 28 18 11 13 9 6 1 0 14 3 17 30 27 16", 60, 48, -96);
        over("d1547 p p b18 t w15,25 a4,0",
            "4 5 2 7 23 31 8 10 11 21 20 22 24 29 26 19 28 18 12 13 9 6 1 0 14 3 17 30 27 16", 61, 48, 48);
    }

    private static void schneiderByNinetyPoints() {
        over("d1060 p p b18 a3,0",
            "24 25 0 8 13 9 19 22 21 31 29 16 26 7 2 1 3 5 23 14 11 15 17 10 30 12 18 4 6 20", 89, 60, 60);
        over("d1060 p p b18 a3,0",
            "24 25 0 8 13 9 20 22 21 31 29 16 26 7 2 1 3 5 23 14 11 15 17 10 30 12 18 4 6 19", 90, 72, 72);
        over("d78 b18 p p t w31,27 a1,0",
            "0 6 1 13 9 14 24 30 29 12 10 7 2 26 16 4 11 20 8 23 15 19 18 22 28 17 3 25 21 5", 89, 20, 20);
        over("d78 b18 p p t w31,27 a1,0",
            "0 6 1 13 9 14 24 30 29 11 10 7 2 26 16 4 12 20 8 23 15 19 18 22 28 17 3 25 21 5", 90, 30, 30);
        over("d1930 p b18 p a4,0",
            "13 8 14 23 15 16 5 3 1 26 29 24 17 9 31 7 18 28 6 19 2 30 12 25 0 20 4 10 27 21", 89, 96, 96);
        over("d1930 p b18 p a4,0",
            "13 8 14 23 15 16 5 3 1 26 29 24 17 9 31 7 18 28 6 20 2 30 12 25 0 19 4 10 27 21", 90, 120, 120);
        over("d1789 b18 p p t w4,13 a4,0",
            "15 23 11 9 12 7 6 2 22 16 18 19 8 21 14 3 28 1 31 27 20 30 26 25 5 10 0 29 17 24", 89, 72, 72);
        over("d1789 b18 p p t w4,13 a4,0",
            "15 23 12 9 11 7 6 2 22 16 18 19 8 21 14 3 28 1 31 27 20 30 26 25 5 10 0 29 17 24", 90, 96, 96);
    }

    /** The others have 90 points when the declarer has 30. */
    private static void schneiderOfTheOthersByNinetyPoints() {
        over("d1545 b18 p p a3,0",
            "22 17 19 29 24 23 21 18 2 0 6 3 30 7 25 5 8 1 31 27 26 9 28 13 16 14 11 20 4 12", 30, 48, -96);
        over("d1545 b18 p p a3,0",
            "22 17 19 29 24 23 21 18 2 0 6 3 30 7 25 5 8 1 31 28 26 9 27 13 16 14 11 20 4 12", 31, 36, -72);
        over("d2711 p b18 p t w10,31 a0,0",
            "20 21 8 9 11 12 15 3 2 4 7 6 5 29 1 18 13 22 0 23 28 26 27 25 14 17 30 24 19 16", 30, 27, -54);
        over("d2711 p b18 p t w10,31 a0,0",
            "19 21 8 9 11 12 15 3 2 4 7 6 5 29 1 18 13 22 0 23 28 26 27 25 14 17 30 24 20 16", 31, 18, -36);
        over("d253 b18 p p a4,0",
            "22 20 21 4 1 5 11 13 12 30 24 29 15 23 7 8 10 17 31 6 26 18 16 19 3 28 0 2 9 25", 30, 96, -192);
        over("d253 b18 p p a4,0",
            "22 19 21 4 1 5 11 13 12 30 24 29 15 23 7 8 10 17 31 6 26 18 16 20 3 28 0 2 9 25", 31, 72, -144);
        over("d2500 b18 p p t w8,2 a4,0",
            "7 15 31 6 3 5 29 30 24 23 9 0 14 10 4 20 18 17 28 22 27 11 12 26 13 1 19 21 25 16", 30, 96, -192);
        over("d2500 b18 p p t w8,2 a4,0",
            "7 15 31 6 3 5 29 30 24 23 9 0 14 10 4 19 18 17 28 22 27 11 12 26 13 1 20 21 25 16", 31, 72, -144);
    }

    private static void announcedSchneiderByNinetyPoints() {
        over("d1246 p b18 p a2,1",
            "8 9 14 21 19 18 16 20 31 25 27 2 6 3 24 30 4 29 13 5 10 28 22 26 7 15 1 12 0 23", 89, 99, -198);
        over("d1246 p b18 p a2,1",
            "8 9 14 21 20 18 16 19 31 25 27 2 6 3 24 30 4 29 13 5 10 28 22 26 7 15 1 12 0 23", 90, 99, 99);
        over("d767 b18 p p a4,1",
            "18 22 16 12 14 9 2 0 1 17 20 10 27 26 25 11 13 8 3 4 7 23 31 21 30 29 28 24 6 19", 89, 120, -240);
        over("d767 b18 p p a4,1",
            "18 22 16 12 14 9 2 0 1 17 19 10 27 26 25 11 13 8 3 4 7 23 31 21 30 29 28 24 6 20", 90, 120, 120);
    }

    private static void overbidUnlessSchneiderIsReached() {
        String[] biddings = {"b96", "b99", "b120", "b121"};
        int[] at89 = {96, -240, -240, -288};
        int[] at90 = {120, 120, 120, -288};
        for (int i = 0; i < biddings.length; i++) {
            String begin = "d1930 p " + biddings[i] + " p a4,0";
            over(begin, "13 8 14 23 15 16 5 3 1 26 29 24 17 9 31 7 18 28 6 19 2 30 12 25 0 20 4 10 27 21", 89,
                at89[i] < 0 ? at89[i] / -2 : at89[i], at89[i]);
            over(begin, "13 8 14 23 15 16 5 3 1 26 29 24 17 9 31 7 18 28 6 20 2 30 12 25 0 19 4 10 27 21", 90,
                at90[i] < 0 ? at90[i] / -2 : at90[i], at90[i]);
        }
    }

    // ---- one bid: the same cards are played after each bid there is

    private static void overbidByEachBid() {
        // Diamonds, hearts, spades, clubs, grand; from the hand and with the skat; announced and not.
        byEachBid("d859 p p", "a0,0", 9, 120, 45,
            "31 17 23 7 10 0 6 26 3 5 27 4 2 18 8 1 11 16 14 12 13 30 28 29 25 19 20 24 22 21");
        byEachBid("d2334 p p", "t w24,10 a0,0", 9, 120, 36,
            "31 23 0 15 7 16 6 8 17 5 9 25 4 18 20 3 30 11 1 26 19 2 29 13 14 27 21 12 28 22");
        byEachBid("d2101 p p", "t w14,22 a1,0", 10, 61, 30,
            "1 3 5 15 9 8 7 13 30 12 23 21 26 27 25 20 18 19 28 24 29 4 2 0 6 17 10 11 31 16");
        byEachBid("d1246 p", "p a2,1", 11, 90, 99,
            "8 9 14 21 20 18 16 19 31 25 27 2 6 3 24 30 4 29 13 5 10 28 22 26 7 15 1 12 0 23");
        byEachBid("d1999 p p", "a3,0", 12, 61, 48,
            "31 25 27 23 29 28 7 26 15 12 11 9 1 6 0 24 16 2 20 18 4 19 22 3 10 14 8 5 17 13");
        byEachBid("d2003", "p p a4,0", 24, 61, 96,
            "7 6 8 0 5 2 14 9 11 22 19 16 30 25 28 4 10 1 20 13 21 15 3 26 18 17 29 27 24 12");
        byEachBid("d1547 p p", "t w15,25 a4,0", 24, 61, 48,
            "4 5 2 7 23 31 8 10 11 21 20 22 24 29 26 19 28 18 12 13 9 6 1 0 14 3 17 30 27 16");
        byEachBid("d1338", "p p a4,2", 24, 120, 168,
            "0 6 8 31 23 7 15 17 16 14 10 9 30 25 26 5 18 2 13 28 12 4 20 3 1 29 27 24 21 19");
    }

    private static void byEachBid(String ahead, String behind, int base, int points, int plain, String plays) {
        for (int bid : Table.BIDS) {
            int value = plain;
            while (value < bid) {
                value += base;
            }
            over(ahead + " b" + bid + " " + behind, plays, points, value, plain >= bid ? value : -2 * value);
        }
    }

    private static void nullByEachBid() {
        String won = "12 15 14 24 30 29 20 17 22 11 9 13 26 31 23 2 7 3 6 0 5 28 27 21 4 10 1 8 16 18";
        nullByEachBid("d891", "p p a5,0", 3, 35, won);
        nullByEachBid("d891", "p p a5,3", 3, 59, won);
        nullByEachBid("d2209 p p", "t w31,15 a5,0", 4, 23,
            "25 28 26 18 23 21 20 1 16 3 0 6 22 17 13 11 8 9 19 27 14 30 29 24 4 2 5 7 12 10");
        nullByEachBid("d1485", "p p t w31,23 a5,3", 4, 46,
            "6 0 7 25 28 30 12 15 9 4 2 1 20 16 17 11 14 10 8 19 13 3 24 5 27 26 29 22 18 21");
    }

    private static void nullByEachBid(String ahead, String behind, int points, int value, String plays) {
        for (int bid : Table.BIDS) {
            over(ahead + " b" + bid + " " + behind, plays, points, value, value >= bid ? value : -2 * value);
        }
    }

    // ---- one trick

    private static void nullLostByOneTrick() {
        String first = "20 22 21 3 1 6 31 25 26 12 24 13 14 19 8 17 16 0 15 18 11 2 7 5 10 4 30 9 28 27";
        String last = "23 17 19 1 6 7 4 31 0 21 24 22 5 2 10 18 20 13 3 25 28 14 15 11 30 29 8 26 27 9";
        over("d2283 b18 p p a5,0", first, 37, 35, -70);
        over("d2283 b18 p p a5,3", first, 37, 59, -118);
        over("d1530 b18 p p a5,0", last, 7, 35, -70);
        over("d1530 b18 p p a5,3", last, 7, 59, -118);
        CHECKS.answer("d2283 b18 p p a5,0 " + first, "tricks(2)", 1);
        CHECKS.answer("d2283 b18 p p a5,0 20 22 21", "tricks(2)", 1);
        CHECKS.answer("d2283 b18 p p a5,0 20 22 21", "phase()", 5);
        CHECKS.answer("d2283 b18 p p a5,0 20 22 21", "score(2)", 0);
        CHECKS.answer("d1530 b18 p p a5,0 " + last.substring(0, last.lastIndexOf(' ')), "tricks(2)", 0);
        CHECKS.answer("d1530 b18 p p a5,0 " + last, "tricks(2)", 1);
    }

    /** With all ten tricks in the first run of each pair, with nine in the second. */
    private static void wonByAllTenTricks() {
        over("d1679 p b18 p a1,2",
            "0 3 4 15 11 12 31 9 7 23 14 1 22 18 21 13 16 2 27 24 26 10 25 19 6 17 5 20 30 29", 120, 90, 90);
        over("d1679 p b18 p a1,2",
            "0 3 4 15 11 12 31 9 7 23 14 1 22 18 21 13 16 2 20 17 19 10 30 5 6 24 26 27 25 29", 107, 90, -180);
        over("d152 b18 p p a4,2",
            "8 11 9 31 15 7 23 25 24 22 19 18 21 20 1 16 10 2 29 27 26 28 3 12 17 6 5 0 13 14", 120, 192, 192);
        over("d152 b18 p p a4,2",
            "8 11 9 31 15 7 23 25 24 22 19 18 21 20 1 16 10 2 29 27 26 28 3 12 17 13 14 0 6 5", 99, 192, -384);
        over("d1349 p p b18 a2,3",
            "23 16 18 31 17 19 15 20 8 22 25 24 21 2 1 30 28 29 5 3 4 13 10 9 26 11 6 0 12 14", 120, 143, 143);
        over("d1349 p p b18 a2,3",
            "23 16 18 31 17 19 15 20 8 22 25 24 21 2 1 30 28 29 5 3 4 13 10 9 26 12 14 0 11 6", 106, 143, -286);
        over("d2093 p b18 p a4,3",
            "0 1 5 31 17 7 23 22 24 14 10 25 13 12 18 4 2 26 11 3 28 9 19 21 8 20 29 16 27 30", 120, 240, 240);
        over("d2093 p b18 p a4,3",
            "0 1 5 31 17 7 23 22 24 14 10 25 13 12 18 4 2 26 11 3 28 9 19 21 8 27 29 16 20 30", 105, 240, -480);
    }

    /** The value counts schwarz for ten tricks of the declarer, not for nine. */
    private static void schwarzByTenTricks() {
        over("d1281 p p b18 t w16,24 a0,0",
            "7 5 0 12 8 10 31 4 1 6 17 3 23 18 26 15 25 11 2 27 19 9 20 28 14 21 29 13 30 22", 120, 72, 72);
        over("d1281 p p b18 t w16,24 a0,0",
            "7 5 0 12 8 10 31 4 1 6 17 3 23 18 26 9 25 11 28 2 30 15 27 29 14 20 19 13 21 22", 117, 63, 63);
        over("d2608 b18 p p t w0,16 a4,0",
            "3 6 1 31 30 17 23 8 25 22 4 21 15 24 2 13 9 29 7 10 18 12 11 27 19 14 28 20 26 5", 120, 168, 168);
        over("d2608 b18 p p t w0,16 a4,0",
            "3 6 1 31 30 17 23 8 25 22 4 21 15 24 2 13 9 29 7 10 18 20 11 27 19 26 28 12 14 5", 95, 144, 144);
    }

    /** The value counts schwarz if the declarer has no trick, not with one. */
    private static void schwarzOfTheOthersByTenTricks() {
        over("d2317 p b18 p a3,0",
            "14 13 8 7 31 15 23 16 29 30 9 27 0 4 5 11 28 10 25 18 26 24 2 21 12 17 6 3 1 22", 7, 72, -144);
        over("d2317 p b18 p a3,0",
            "14 13 8 7 31 15 23 16 29 30 9 27 0 4 5 11 28 10 25 18 26 24 2 21 12 1 22 3 17 6", 21, 60, -120);
        over("d1897 p p b18 a4,0",
            "17 16 20 31 15 23 11 18 14 6 1 5 29 24 26 4 0 19 12 13 28 7 21 2 10 30 8 9 22 25", 6, 144, -288);
        over("d1897 p p b18 a4,0",
            "17 16 20 31 15 23 11 18 14 6 1 5 29 24 26 4 0 19 25 13 28 22 12 7 10 30 8 9 21 2", 20, 120, -240);
    }

    // ---- ramsch

    private static void ramschDecidedByTheSkat() {
        // Without the skat it would be 32, 34 and 43: the skat's 11 points make two with the most.
        ramsch("d894", "23 7 15 10 12 9 3 5 4 13 14 8 26 30 28 19 16 20 21 22 1 2 0 27 17 31 24 11 25 29",
            new int[] {43, 34, 43}, new int[] {-43, 0, -43});
        // 19, 50 and 39 without the skat.
        ramsch("d68", "24 26 29 4 5 0 2 21 18 9 14 10 25 16 30 31 8 23 1 22 17 3 28 15 11 6 12 27 20 19",
            new int[] {19, 50, 51}, new int[] {0, 0, -51});
        // 41, 41 and 28 without the skat.
        ramsch("d266", "1 6 2 27 29 21 22 19 16 30 15 28 23 25 31 4 3 5 11 10 12 0 8 24 7 14 18 20 9 17",
            new int[] {41, 51, 28}, new int[] {0, -51, 0});
        // 5, 56 and 56 without the skat.
        ramsch("d477", "13 8 12 5 6 4 25 29 30 16 20 17 3 2 1 28 14 23 9 24 10 19 21 22 26 15 31 11 18 7",
            new int[] {8, 56, 56}, new int[] {0, -56, -56});
    }

    private static void ramsch(String number, String plays, int[] points, int[] scores) {
        String words = number + " p p p " + plays;
        for (int player = 0; player < 3; player++) {
            CHECKS.answer(words, "points(" + player + ")", points[player]);
            CHECKS.answer(words, "score(" + player + ")", scores[player]);
        }
        CHECKS.answer(words, "value()", Math.max(points[0], Math.max(points[1], points[2])));
    }
}
