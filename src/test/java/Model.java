import java.math.BigInteger;
import java.util.ArrayList;
import java.util.Arrays;
import java.util.Collections;
import java.util.List;
import java.util.TreeSet;

/**
 * The document written a second time, in another way: nothing but what was done is kept, and every answer is worked
 * out from that anew.
 */
final class Model {
    private static final List<String> RANKS = List.of("7", "8", "9", "Q", "K", "10", "A", "J");
    private static final List<String> FALLING = List.of("A", "10", "K", "Q", "9", "8", "7");
    private static final List<String> FALLING_IN_NULL = List.of("A", "K", "Q", "J", "10", "9", "8", "7");
    private static final TreeSet<Integer> BIDS = bids();

    private final int[] scores = new int[3];
    private int deals = -1;
    private final List<List<Integer>> dealt = new ArrayList<>();
    private List<Integer> skat;
    private final List<Integer> bidding = new ArrayList<>();
    private boolean skatTaken;
    private List<Integer> away;
    private int announced;
    private int extra;
    private final List<Integer> plays = new ArrayList<>();

    // What the bidding so far amounts to.
    private int bidPhase;
    private int bidTurn;
    private int latest;
    private int declarer;

    Model() {
        start(0);
    }

    private static final int PASS = -1;
    private static final int HOLD = -2;

    private static TreeSet<Integer> bids() {
        TreeSet<Integer> all = new TreeSet<>(List.of(23, 35, 46, 59));
        for (int times = 2; times <= 18; times++) {
            all.addAll(List.of(9 * times, 10 * times, 11 * times, 12 * times));
        }
        for (int times = 2; times <= 11; times++) {
            all.add(24 * times);
        }
        return all;
    }

    static boolean isBid(int value) {
        return BIDS.contains(value);
    }

    private void start(int number) {
        deals++;
        BigInteger s = BigInteger.valueOf(number);
        BigInteger modulus = BigInteger.TWO.pow(31);
        List<Integer> deck = new ArrayList<>();
        for (int c = 0; c < 32; c++) {
            deck.add(c);
        }
        for (int i = 31; i >= 1; i--) {
            s = s.multiply(BigInteger.valueOf(1103515245)).add(BigInteger.valueOf(12345)).mod(modulus);
            Collections.swap(deck, i, s.divide(BigInteger.valueOf(65536)).mod(BigInteger.valueOf(i + 1)).intValue());
        }
        dealt.clear();
        for (int p = 0; p < 3; p++) {
            dealt.add(List.copyOf(deck.subList(10 * p, 10 * p + 10)));
        }
        skat = List.copyOf(deck.subList(30, 32));
        bidding.clear();
        plays.clear();
        skatTaken = false;
        away = null;
        announced = -1;
        extra = 0;
        replayBidding();
    }

    int deal(int number) {
        if (number < 0) {
            throw new IllegalArgumentException();
        }
        start(number);
        return deals % 3;
    }

    private void replayBidding() {
        int fore = deals % 3;
        int middle = (deals + 1) % 3;
        int rear = (deals + 2) % 3;
        latest = 0;
        declarer = -1;
        int[] at = {0};
        int left = duel(middle, fore, at);
        if (left < 0) {
            return;
        }
        left = duel(rear, left, at);
        if (left < 0) {
            return;
        }
        if (latest == 0) {
            bidPhase = 0;
            bidTurn = fore;
            if (at[0] == bidding.size()) {
                return;
            }
            int last = bidding.get(at[0]);
            if (last == PASS) {
                announced = 6;
                return;
            }
            latest = last;
        }
        declarer = left;
    }

    private int duel(int speaker, int answerer, int[] at) {
        while (true) {
            if (at[0] == bidding.size()) {
                bidPhase = 0;
                bidTurn = speaker;
                return -1;
            }
            int said = bidding.get(at[0]++);
            if (said == PASS) {
                return answerer;
            }
            latest = said;
            if (at[0] == bidding.size()) {
                bidPhase = 1;
                bidTurn = answerer;
                return -1;
            }
            if (bidding.get(at[0]++) == PASS) {
                return speaker;
            }
        }
    }

    int phase() {
        if (announced >= 0) {
            return plays.size() == 30 ? 6 : 5;
        }
        if (declarer < 0) {
            return bidPhase;
        }
        return !skatTaken ? 2 : away == null ? 3 : 4;
    }

    int onTurn() {
        switch (phase()) {
            case 0:
            case 1:
                return bidTurn;
            case 5:
                return (leaderOf(plays.size() / 3) + plays.size() % 3) % 3;
            case 6:
                return -1;
            default:
                return declarer;
        }
    }

    private void require(boolean possible) {
        if (!possible) {
            throw new IllegalStateException();
        }
    }

    private int say(int what) {
        bidding.add(what);
        replayBidding();
        return onTurn();
    }

    int bid(int value) {
        if (!isBid(value)) {
            throw new IllegalArgumentException();
        }
        require(phase() == 0 && value > latest);
        return say(value);
    }

    int hold() {
        require(phase() == 1);
        return say(HOLD);
    }

    int pass() {
        require(phase() == 0 || phase() == 1);
        return say(PASS);
    }

    int latestBid() {
        return latest;
    }

    int nextBid(int number) {
        if (number < 0 || number > 263) {
            throw new IllegalArgumentException();
        }
        return BIDS.higher(number);
    }

    int declarer() {
        return declarer;
    }

    private static long setOf(List<Integer> cards) {
        long set = 0;
        for (int c : cards) {
            set += 1L << c;
        }
        return set;
    }

    long takeSkat() {
        require(phase() == 2);
        skatTaken = true;
        return setOf(skat);
    }

    private static void requireCard(int card) {
        if (card < 0 || card > 31) {
            throw new IndexOutOfBoundsException();
        }
    }

    private static void requirePlayer(int player) {
        if (player < 0 || player > 2) {
            throw new IndexOutOfBoundsException();
        }
    }

    int putAway(int one, int other) {
        requireCard(one);
        requireCard(other);
        if (one == other) {
            throw new IllegalArgumentException();
        }
        require(phase() == 3 && cardsOf(declarer).containsAll(List.of(one, other)));
        away = List.of(one, other);
        return countOf(one) + countOf(other);
    }

    int announce(int contract, int extra) {
        if (contract < 0 || contract > 5 || extra < 0 || extra > 3) {
            throw new IllegalArgumentException();
        }
        require(phase() == 2 || phase() == 4);
        require(extra == 0 || (contract == 5 ? extra == 3 : !skatTaken));
        announced = contract;
        this.extra = extra;
        return onTurn();
    }

    int contract() {
        return announced;
    }

    private static String rank(int card) {
        return RANKS.get(card % 8);
    }

    private static int countOf(int card) {
        switch (rank(card)) {
            case "Q":
                return 3;
            case "K":
                return 4;
            case "10":
                return 10;
            case "A":
                return 11;
            case "J":
                return 2;
            default:
                return 0;
        }
    }

    private static int cardOf(int suit, String rank) {
        return suit * 8 + RANKS.indexOf(rank);
    }

    /** The trumps from the highest on. */
    private static List<Integer> trumps(int contract) {
        List<Integer> trumps = new ArrayList<>();
        if (contract == 5) {
            return trumps;
        }
        for (int suit = 3; suit >= 0; suit--) {
            trumps.add(cardOf(suit, "J"));
        }
        if (contract < 4) {
            for (String rank : FALLING) {
                trumps.add(cardOf(contract, rank));
            }
        }
        return trumps;
    }

    private static int colour(int card, int contract) {
        return trumps(contract).contains(card) ? 9 : card / 8;
    }

    private List<Integer> cardsOf(int player) {
        List<Integer> cards = new ArrayList<>(dealt.get(player));
        if (player == declarer && skatTaken) {
            cards.addAll(skat);
            if (away != null) {
                cards.removeAll(away);
            }
        }
        cards.removeAll(plays);
        return cards;
    }

    int matadors(int player, int contract) {
        requirePlayer(player);
        if (contract < 0 || contract > 4) {
            throw new IllegalArgumentException();
        }
        List<Integer> had = new ArrayList<>(dealt.get(player));
        if (player == declarer) {
            had.addAll(skat);
        }
        int with = 0;
        int without = 0;
        for (int trump : trumps(contract)) {
            if (had.contains(trump)) {
                if (without > 0) {
                    break;
                }
                with++;
            } else {
                if (with > 0) {
                    break;
                }
                without++;
            }
        }
        return with > 0 ? with : -without;
    }

    long playable() {
        require(phase() == 5);
        List<Integer> held = cardsOf(onTurn());
        if (plays.size() % 3 == 0) {
            return setOf(held);
        }
        int led = plays.get(plays.size() - plays.size() % 3);
        List<Integer> following = new ArrayList<>();
        for (int card : held) {
            if (colour(card, announced) == colour(led, announced)) {
                following.add(card);
            }
        }
        return setOf(following.isEmpty() ? held : following);
    }

    int play(int card) {
        requireCard(card);
        require(phase() == 5 && (playable() & 1L << card) != 0);
        plays.add(card);
        if (plays.size() == 30) {
            writeScores();
        }
        return plays.size() % 3 == 0 ? leaderOf(plays.size() / 3) : -1;
    }

    private int leaderOf(int trick) {
        return trick == 0 ? deals % 3 : winnerOf(trick - 1);
    }

    private int winnerOf(int trick) {
        List<Integer> cards = plays.subList(3 * trick, 3 * trick + 3);
        int leader = leaderOf(trick);
        for (int trump : trumps(announced)) {
            if (cards.contains(trump)) {
                return (leader + cards.indexOf(trump)) % 3;
            }
        }
        for (String rank : announced == 5 ? FALLING_IN_NULL : FALLING) {
            int card = cardOf(cards.get(0) / 8, rank);
            if (cards.contains(card)) {
                return (leader + cards.indexOf(card)) % 3;
            }
        }
        throw new AssertionError();
    }

    long hand(int player) {
        requirePlayer(player);
        return setOf(cardsOf(player));
    }

    int inTrick(int place) {
        if (place < 0 || place > 2) {
            throw new IllegalArgumentException();
        }
        return place < plays.size() % 3 ? plays.get(plays.size() / 3 * 3 + place) : -1;
    }

    int points(int player) {
        requirePlayer(player);
        int points = 0;
        for (int trick = 0; trick < plays.size() / 3; trick++) {
            if (winnerOf(trick) == player) {
                for (int card : plays.subList(3 * trick, 3 * trick + 3)) {
                    points += countOf(card);
                }
            }
        }
        boolean getsSkat = announced == 6 ? plays.size() == 30 && winnerOf(9) == player
                : announced >= 0 && player == declarer;
        if (getsSkat) {
            for (int card : away != null ? away : skat) {
                points += countOf(card);
            }
        }
        return points;
    }

    int tricks(int player) {
        requirePlayer(player);
        int tricks = 0;
        for (int trick = 0; trick < plays.size() / 3; trick++) {
            if (winnerOf(trick) == player) {
                tricks++;
            }
        }
        return tricks;
    }

    private int base() {
        return new int[] {9, 10, 11, 12, 24}[announced];
    }

    private int unraised() {
        boolean fromHand = !skatTaken;
        if (announced == 5) {
            return extra == 3 ? (fromHand ? 59 : 46) : fromHand ? 35 : 23;
        }
        int next = (declarer + 1) % 3;
        int last = (declarer + 2) % 3;
        boolean isSchneider = points(declarer) >= 90 || points(next) + points(last) >= 90;
        boolean isSchwarz = tricks(declarer) == 10 || tricks(next) + tricks(last) == 10;
        boolean[] steps = {fromHand, isSchneider || extra >= 1, extra >= 1, isSchwarz || extra >= 2, extra >= 2,
            extra == 3};
        int times = Math.abs(matadors(declarer, announced)) + 1;
        for (boolean step : steps) {
            times += step ? 1 : 0;
        }
        return base() * times;
    }

    int value() {
        require(announced >= 0);
        if (announced == 6) {
            return Arrays.stream(new int[] {points(0), points(1), points(2)}).max().getAsInt();
        }
        int value = unraised();
        if (announced < 5) {
            while (value < latest) {
                value += base();
            }
        }
        return value;
    }

    private void writeScores() {
        if (announced == 6) {
            int most = value();
            for (int p = 0; p < 3; p++) {
                scores[p] -= points(p) == most ? most : 0;
            }
            return;
        }
        boolean isWon;
        if (announced == 5) {
            isWon = tricks(declarer) == 0;
        } else if (extra >= 2) {
            isWon = tricks(declarer) == 10;
        } else {
            isWon = points(declarer) >= (extra == 1 ? 90 : 61);
        }
        if (unraised() < latest) {
            isWon = false;
        }
        scores[declarer] += isWon ? value() : -2 * value();
    }

    int score(int player) {
        requirePlayer(player);
        return scores[player];
    }
}
