/**
 * A table for skat with three players: it deals, takes bids, lets the declarer announce, and has
 * ten tricks played, or ramsch if all pass; it keeps to the rules and writes the scores.
 */
public final class SkatMill {
    private static final int CARDS = 32;
    private static final int PLAYERS = 3;
    private static final int HAND_SIZE = 10;
    private static final int ALL_TRICKS = 10;
    private static final int NONE = -1;

    // What phase() tells.
    private static final int TO_BID = 0;
    private static final int TO_HOLD = 1;
    private static final int TO_TAKE_OR_ANNOUNCE = 2;
    private static final int TO_PUT_AWAY = 3;
    private static final int TO_ANNOUNCE = 4;
    private static final int TO_PLAY = 5;
    private static final int OVER = 6;

    // Contracts; 0 to 3 are the suits.
    private static final int GRAND = 4;
    private static final int NULL_GAME = 5;
    private static final int RAMSCH = 6;

    // Extras.
    private static final int SCHNEIDER = 1;
    private static final int SCHWARZ = 2;
    private static final int OPEN = 3;

    private static final int SCHNEIDER_POINTS = 90;
    private static final int WINNING_POINTS = 61;

    private final Seat seat0 = new Seat();
    private final Seat seat1 = new Seat();
    private final Seat seat2 = new Seat();
    private final Trick trick = new Trick();
    private final int[] deck = new int[CARDS];

    private int forehand;
    private int phase;
    private int onTurn;
    // Who makes the bids, and who answers them: nobody when the forehand alone is left without a bid.
    private int bidder;
    private int answerer;
    private int latestBid;
    private int declarer;
    private int contract;
    private int extra;
    private boolean handGame;
    // The skat, or what was put away; empty while the declarer holds all twelve cards.
    private long skat;

    public SkatMill() {
        forehand = 0;
        startDeal(0);
    }

    // ---- dealing and bidding

    public int deal(int number) throws IllegalArgumentException {
        if (number < 0) {
            throw new IllegalArgumentException("a deal's number is 0 or more");
        }
        forehand = playerAfter(forehand);
        startDeal(number);
        return forehand;
    }

    public int phase() {
        return phase;
    }

    public int onTurn() {
        return onTurn;
    }

    public int bid(int value) throws IllegalArgumentException, IllegalStateException {
        if (!Bids.isBid(value)) {
            throw new IllegalArgumentException("this is none of the bids");
        }
        if (phase != TO_BID || value <= latestBid) {
            throw new IllegalStateException("this bid is not possible now");
        }
        latestBid = value;
        if (answerer == NONE) {
            makeDeclarer(bidder);
        } else {
            phase = TO_HOLD;
            onTurn = answerer;
        }
        return onTurn;
    }

    public int hold() throws IllegalStateException {
        if (phase != TO_HOLD) {
            throw new IllegalStateException("there is no bid to be held");
        }
        phase = TO_BID;
        onTurn = bidder;
        return onTurn;
    }

    public int pass() throws IllegalStateException {
        if (phase != TO_BID && phase != TO_HOLD) {
            throw new IllegalStateException("it is not the time to bid or to hold");
        }
        if (answerer == NONE) {
            startPlay(RAMSCH);
        } else {
            goOnBidding(phase == TO_BID ? answerer : bidder);
        }
        return onTurn;
    }

    public int latestBid() {
        return latestBid;
    }

    public int nextBid(int number) throws IllegalArgumentException {
        if (number < 0 || number >= Bids.GREATEST) {
            throw new IllegalArgumentException("no bid is looked for behind this number");
        }
        return Bids.leastAbove(number);
    }

    public int declarer() {
        return declarer;
    }

    // ---- declaring

    public long takeSkat() throws IllegalStateException {
        if (phase != TO_TAKE_OR_ANNOUNCE) {
            throw new IllegalStateException("it is not the time to take the skat");
        }
        long taken = skat;
        seat(declarer).cards |= taken;
        skat = 0;
        phase = TO_PUT_AWAY;
        return taken;
    }

    public int putAway(int one, int other)
            throws IndexOutOfBoundsException, IllegalArgumentException, IllegalStateException {
        if (!isCard(one) || !isCard(other)) {
            throw new IndexOutOfBoundsException("there is no such card");
        }
        if (one == other) {
            throw new IllegalArgumentException("two different cards are put away");
        }
        long both = Cards.setOf(one) | Cards.setOf(other);
        if (phase != TO_PUT_AWAY || (seat(declarer).cards & both) != both) {
            throw new IllegalStateException("these cards can't be put away now");
        }
        seat(declarer).cards &= ~both;
        skat = both;
        phase = TO_ANNOUNCE;
        return Cards.pointsIn(both);
    }

    public int announce(int contract, int extra) throws IllegalArgumentException, IllegalStateException {
        if (contract < 0 || contract > NULL_GAME || extra < 0 || extra > OPEN) {
            throw new IllegalArgumentException("there is no such contract or extra");
        }
        boolean fromHand = phase == TO_TAKE_OR_ANNOUNCE;
        if (!fromHand && phase != TO_ANNOUNCE) {
            throw new IllegalStateException("it is not the time to announce");
        }
        if (!isExtraPossible(contract, extra, fromHand)) {
            throw new IllegalStateException("this extra is not possible");
        }
        this.extra = extra;
        handGame = fromHand;
        seat(declarer).pointsWon += Cards.pointsIn(skat);
        startPlay(contract);
        return onTurn;
    }

    public int contract() {
        return contract;
    }

    public int matadors(int player, int contract) throws IndexOutOfBoundsException, IllegalArgumentException {
        refuseNoPlayer(player);
        if (contract < 0 || contract > GRAND) {
            throw new IllegalArgumentException("there are no trumps to count for this contract");
        }
        return Cards.runOfTrumps(cardsForMatadors(player), contract);
    }

    // ---- play

    public long playable() throws IllegalStateException {
        if (phase != TO_PLAY) {
            throw new IllegalStateException("no card is to be played");
        }
        return playableCards();
    }

    public int play(int card) throws IndexOutOfBoundsException, IllegalStateException {
        if (!isCard(card)) {
            throw new IndexOutOfBoundsException("there is no such card");
        }
        if (phase != TO_PLAY || (playableCards() & Cards.setOf(card)) == 0) {
            throw new IllegalStateException("this card can't be played now");
        }
        seat(onTurn).lay(card);
        trick.add(card);
        if (!trick.isComplete()) {
            onTurn = playerAfter(onTurn);
            return NONE;
        }
        int winner = trickWinner();
        seat(winner).win(trick.sumOfPoints());
        trick.clear();
        onTurn = winner;
        if (allTricksWon() == ALL_TRICKS) {
            endDeal(winner);
        }
        return winner;
    }

    public long hand(int player) throws IndexOutOfBoundsException {
        refuseNoPlayer(player);
        return seat(player).cards;
    }

    public int inTrick(int place) throws IllegalArgumentException {
        if (place < 0 || place >= PLAYERS) {
            throw new IllegalArgumentException("a trick has the places 0 to 2");
        }
        return trick.cardAt(place);
    }

    public int points(int player) throws IndexOutOfBoundsException {
        refuseNoPlayer(player);
        return seat(player).pointsWon;
    }

    public int tricks(int player) throws IndexOutOfBoundsException {
        refuseNoPlayer(player);
        return seat(player).tricksWon;
    }

    // ---- value and scores

    public int value() throws IllegalStateException {
        if (contract == NONE) {
            throw new IllegalStateException("there is no contract yet");
        }
        if (contract == RAMSCH) {
            return mostPoints();
        }
        return raisedToBid(valueBeforeRaising());
    }

    public int score(int player) throws IndexOutOfBoundsException {
        refuseNoPlayer(player);
        return seat(player).total;
    }

    // ---- players

    private static void refuseNoPlayer(int player) {
        if (player < 0 || player >= PLAYERS) {
            throw new IndexOutOfBoundsException("there is no such player");
        }
    }

    private static int playerAfter(int player) {
        return player >= PLAYERS - 1 ? 0 : player + 1;
    }

    // Fields in place of a row, so that no index can miss.
    private Seat seat(int player) {
        if (player == 0) {
            return seat0;
        }
        return player == 1 ? seat1 : seat2;
    }

    private static boolean isCard(int card) {
        return card >= 0 && card < CARDS;
    }

    // ---- the course of a deal

    private void startDeal(int number) {
        seat0.startDeal();
        seat1.startDeal();
        seat2.startDeal();
        trick.clear();
        shuffle(number);
        giveCards();
        latestBid = 0;
        declarer = NONE;
        contract = NONE;
        extra = 0;
        handGame = false;
        startBidding(playerAfter(forehand), forehand);
    }

    private void shuffle(int number) {
        for (int card = 0; card < deck.length; card++) {
            deck[card] = card;
        }
        long s = number;
        for (int i = deck.length - 1; i >= 1; i--) {
            s = (s * 1103515245L + 12345L) & 0x7fffffffL;
            exchange(i, (int) (s / 65536 % (i + 1)));
        }
    }

    private void exchange(int one, int other) {
        if (one < 0 || one >= deck.length || other < 0 || other >= deck.length) {
            return;
        }
        int card = deck[one];
        deck[one] = deck[other];
        deck[other] = card;
    }

    private void giveCards() {
        skat = 0;
        for (int place = 0; place < deck.length; place++) {
            long card = Cards.setOf(deck[place]);
            if (place < PLAYERS * HAND_SIZE) {
                seat(place / HAND_SIZE).cards |= card;
            } else {
                skat |= card;
            }
        }
    }

    private void startBidding(int bidding, int answering) {
        bidder = bidding;
        answerer = answering;
        phase = TO_BID;
        onTurn = bidding;
    }

    private void goOnBidding(int left) {
        int rearhand = playerAfter(playerAfter(forehand));
        if (bidder != rearhand) {
            startBidding(rearhand, left);
        } else if (latestBid > 0) {
            makeDeclarer(left);
        } else {
            startBidding(left, NONE);
        }
    }

    private void makeDeclarer(int player) {
        declarer = player;
        phase = TO_TAKE_OR_ANNOUNCE;
        onTurn = player;
    }

    private static boolean isExtraPossible(int contract, int extra, boolean fromHand) {
        if (extra == 0) {
            return true;
        }
        return contract == NULL_GAME ? extra == OPEN : fromHand;
    }

    private void startPlay(int contract) {
        this.contract = contract;
        phase = TO_PLAY;
        onTurn = forehand;
    }

    private long playableCards() {
        long held = seat(onTurn).cards;
        if (trick.isEmpty()) {
            return held;
        }
        long following = held & Cards.colourOf(trick.cardAt(0), contract);
        return following != 0 ? following : held;
    }

    // Asked when the third card lies, so that the player on turn played last.
    private int trickWinner() {
        int leader = playerAfter(onTurn);
        int place = trick.winningPlace(contract);
        if (place == 0) {
            return leader;
        }
        return place == 1 ? playerAfter(leader) : onTurn;
    }

    private int allTricksWon() {
        return seat0.tricksWon + seat1.tricksWon + seat2.tricksWon;
    }

    private int allPointsWon() {
        return seat0.pointsWon + seat1.pointsWon + seat2.pointsWon;
    }

    private int mostPoints() {
        return Math.max(seat0.pointsWon, Math.max(seat1.pointsWon, seat2.pointsWon));
    }

    private void endDeal(int lastWinner) {
        phase = OVER;
        onTurn = NONE;
        if (contract == RAMSCH) {
            seat(lastWinner).pointsWon += Cards.pointsIn(skat);
            scoreRamsch();
        } else {
            scoreGame();
        }
    }

    private void scoreRamsch() {
        int most = mostPoints();
        seat0.loseRamschWith(most);
        seat1.loseRamschWith(most);
        seat2.loseRamschWith(most);
    }

    private void scoreGame() {
        int plain = valueBeforeRaising();
        int written = raisedToBid(plain);
        boolean won = plain >= latestBid && isAimReached();
        seat(declarer).total += won ? written : -2 * written;
    }

    // ---- value

    private boolean isAimReached() {
        Seat alone = seat(declarer);
        if (contract == NULL_GAME) {
            return alone.tricksWon == 0;
        }
        if (extra >= SCHWARZ) {
            return alone.tricksWon == ALL_TRICKS;
        }
        return alone.pointsWon >= (extra == SCHNEIDER ? SCHNEIDER_POINTS : WINNING_POINTS);
    }

    private int valueBeforeRaising() {
        return contract == NULL_GAME ? nullValue() : baseValue() * multiplier();
    }

    private int nullValue() {
        if (extra == OPEN) {
            return handGame ? 59 : 46;
        }
        return handGame ? 35 : 23;
    }

    private int baseValue() {
        return contract == GRAND ? 24 : 9 + contract;
    }

    private int multiplier() {
        int result = Math.abs(Cards.runOfTrumps(cardsForMatadors(declarer), contract)) + 1;
        if (handGame) {
            result++;
        }
        if (extra >= SCHNEIDER || hasOneSidePoints(SCHNEIDER_POINTS)) {
            result++;
        }
        if (extra >= SCHWARZ || hasOneSideAllTricks()) {
            result++;
        }
        // One each for schneider announced, schwarz announced and open: the numbers of the extras say just that.
        return result + extra;
    }

    private boolean hasOneSidePoints(int wanted) {
        int alone = seat(declarer).pointsWon;
        return alone >= wanted || allPointsWon() - alone >= wanted;
    }

    private boolean hasOneSideAllTricks() {
        int alone = seat(declarer).tricksWon;
        return alone == ALL_TRICKS || allTricksWon() - alone == ALL_TRICKS;
    }

    private int raisedToBid(int plain) {
        int base = baseValue();
        if (plain >= latestBid || contract == NULL_GAME || base <= 0) {
            return plain;
        }
        return (latestBid + base - 1) / base * base;
    }

    private long cardsForMatadors(int player) {
        long cards = seat(player).cards | seat(player).laid;
        return player == declarer ? cards | skat : cards;
    }

    /** What one player holds, has played, has won in this deal, and has scored in all. */
    private static final class Seat {
        private long cards;
        private long laid;
        private int pointsWon;
        private int tricksWon;
        private int total;

        private void startDeal() {
            cards = 0;
            laid = 0;
            pointsWon = 0;
            tricksWon = 0;
        }

        private void lay(int card) {
            cards &= ~Cards.setOf(card);
            laid |= Cards.setOf(card);
        }

        private void win(int pointsOfTrick) {
            pointsWon += pointsOfTrick;
            tricksWon++;
        }

        private void loseRamschWith(int most) {
            if (pointsWon == most) {
                total -= most;
            }
        }
    }

    /** The cards of the trick that is being played, in the order in which they came. */
    private static final class Trick {
        private final int[] row = new int[PLAYERS];
        private int size;

        private void clear() {
            size = 0;
        }

        private void add(int card) {
            if (size >= 0 && size < row.length) {
                row[size] = card;
                size++;
            }
        }

        private boolean isEmpty() {
            return size == 0;
        }

        private boolean isComplete() {
            return size == row.length;
        }

        private int cardAt(int place) {
            return place >= 0 && place < size && place < row.length ? row[place] : NONE;
        }

        private int sumOfPoints() {
            int sum = 0;
            for (int place = 0; place < size; place++) {
                sum += Cards.pointsOf(cardAt(place));
            }
            return sum;
        }

        private int winningPlace(int contract) {
            int led = cardAt(0);
            int best = 0;
            for (int place = 1; place < size; place++) {
                if (Cards.strength(cardAt(place), led, contract) > Cards.strength(cardAt(best), led, contract)) {
                    best = place;
                }
            }
            return best;
        }
    }

    /** What the cards count and how they beat one another; a set of cards is a long with bit c for card c. */
    private static final class Cards {
        private static final int RANKS = 8;
        private static final int JACK = 7;
        private static final long JACKS = 0x80808080L;
        // By rank as the cards are numbered: seven, eight, nine, queen, king, ten, ace, jack.
        private static final int[] POINTS = {0, 0, 0, 3, 4, 10, 11, 2};
        private static final int[] ORDER_IN_NULL = {0, 1, 2, 5, 6, 3, 7, 4};

        private static long setOf(int card) {
            return 1L << card;
        }

        private static int rankOf(int card) {
            return card & (RANKS - 1);
        }

        private static long suit(int number) {
            return 0xffL << (number * RANKS);
        }

        private static int ofRank(int[] row, int rank) {
            return rank >= 0 && rank < row.length ? row[rank] : 0;
        }

        private static int pointsOf(int card) {
            return ofRank(POINTS, rankOf(card));
        }

        private static int pointsIn(long set) {
            int sum = 0;
            for (int card = 0; card < CARDS; card++) {
                if ((set & setOf(card)) != 0) {
                    sum += pointsOf(card);
                }
            }
            return sum;
        }

        private static long trumps(int contract) {
            if (contract == NULL_GAME) {
                return 0;
            }
            return contract >= 0 && contract < GRAND ? JACKS | suit(contract) : JACKS;
        }

        private static long colourOf(int card, int contract) {
            long trumps = trumps(contract);
            return (trumps & setOf(card)) != 0 ? trumps : suit(card / RANKS) & ~trumps;
        }

        // Greater beats less; 0 for a card that is neither a trump nor of the colour that was led.
        private static int strength(int card, int led, int contract) {
            if ((trumps(contract) & setOf(card)) != 0) {
                return rankOf(card) == JACK ? 200 + card / RANKS : 100 + rankOf(card);
            }
            if ((colourOf(led, contract) & setOf(card)) == 0) {
                return 0;
            }
            return 1 + (contract == NULL_GAME ? ofRank(ORDER_IN_NULL, rankOf(card)) : rankOf(card));
        }

        private static int runOfTrumps(long set, int contract) {
            int count = contract == GRAND ? 4 : 11;
            boolean isWith = (set & setOf(trumpFromTop(0, contract))) != 0;
            int run = 1;
            while (run < count && isWith == ((set & setOf(trumpFromTop(run, contract))) != 0)) {
                run++;
            }
            return isWith ? run : -run;
        }

        // The four jacks from clubs down, then the suit from the ace down.
        private static int trumpFromTop(int place, int contract) {
            return place < 4 ? (3 - place) * RANKS + JACK : contract * RANKS + 10 - place;
        }
    }

    /** The values that can be bid. */
    private static final class Bids {
        private static final int GREATEST = 264;

        private static boolean isBid(int value) {
            return isNullValue(value) || isProduct(value, 9, 18) || isProduct(value, 10, 18)
                    || isProduct(value, 11, 18) || isProduct(value, 12, 18) || isProduct(value, 24, 11);
        }

        private static boolean isNullValue(int value) {
            return value == 23 || value == 35 || value == 46 || value == 59;
        }

        private static boolean isProduct(int value, int base, int mostTimes) {
            for (int times = 2; times <= mostTimes; times++) {
                if (value == base * times) {
                    return true;
                }
            }
            return false;
        }

        private static int leastAbove(int number) {
            for (int value = number + 1; value < GREATEST; value++) {
                if (isBid(value)) {
                    return value;
                }
            }
            return GREATEST;
        }
    }
}
