import java.util.Random;

/** Random runs of at most 512 calls, each call made on the program and on the model, which have to agree. */
public final class ModelTest {
    private static final int RUNS = 3000;
    private static final int CALLS = 512;

    private final Random random;
    private final Checks checks;
    private final int run;
    private final SkatMill mill = new SkatMill();
    private final Model model = new Model();
    private int calls = 0;
    private boolean favourite = false;
    private int favoured = 0;
    private int suit = 0;

    private ModelTest(int run, Checks checks) {
        this.run = run;
        this.checks = checks;
        random = new Random(run);
    }

    public static void main(String[] args) {
        Checks checks = new Checks();
        for (int run = 0; run < RUNS; run++) {
            new ModelTest(run, checks).go();
        }
        checks.end("ModelTest");
    }

    private void go() {
        while (calls < CALLS) {
            int dice = random.nextInt(100);
            if (dice < 70) {
                move();
            } else if (dice < 75) {
                anyMove();
            } else {
                ask(random.nextInt(12));
            }
            if (model.phase() == 6) {
                askAll();
            }
        }
    }

    private void compare(String call, java.util.function.LongSupplier ofMill, java.util.function.LongSupplier ofModel) {
        if (calls < CALLS) {
            calls++;
            checks.same("run " + run + ", call " + calls + ": " + call, Checks.outcome(ofMill),
                Checks.outcome(ofModel));
        }
    }

    /** A move that is possible, so that deals come to their end. */
    private void move() {
        switch (model.phase()) {
            case 0:
                bidOrPass();
                break;
            case 1:
                if (favourite ? model.onTurn() == favoured : random.nextInt(3) > 0) {
                    hold();
                } else {
                    pass();
                }
                break;
            case 2:
                if (random.nextInt(2) == 0) {
                    takeSkat();
                } else {
                    announcePossible();
                }
                break;
            case 3:
                long held = model.hand(model.declarer());
                putAway(weakest(held), favourite ? weakest(held & ~(1L << weakest(held))) : oneOf(held));
                break;
            case 4:
                announcePossible();
                break;
            case 5:
                play(choose(model.playable()));
                break;
            default:
                nextDeal();
        }
    }

    private void bidOrPass() {
        boolean keen = favourite ? model.onTurn() == favoured : random.nextInt(5) > 1;
        if (!keen || model.latestBid() == 264) {
            pass();
        } else if (random.nextInt(40) == 0) {
            bid(model.nextBid(model.latestBid() + random.nextInt(264 - model.latestBid())));
        } else {
            bid(model.nextBid(model.latestBid()));
        }
    }

    private void announcePossible() {
        boolean fromHand = model.phase() == 2;
        int contract = favourite ? suit : random.nextInt(6);
        int extra = contract == 5 ? 3 * random.nextInt(2) : fromHand ? random.nextInt(4) : 0;
        announce(contract, extra);
    }

    private void nextDeal() {
        favourite = random.nextInt(3) == 0;
        int number = random.nextInt() & 0x7fffffff;
        if (favourite) {
            number = favouringNumber();
        }
        deal(number);
    }

    /** A deal in which one player has many trumps, so that games are won high. */
    private int favouringNumber() {
        int best = 0;
        int most = 0;
        for (int tries = 0; tries < 10; tries++) {
            int number = random.nextInt(100000);
            Model shown = new Model();
            shown.deal(number);
            for (int player = 0; player < 3; player++) {
                for (int contract = 0; contract < 5; contract++) {
                    if (shown.matadors(player, contract) > most) {
                        most = shown.matadors(player, contract);
                        best = number;
                        favoured = player;
                        suit = contract;
                    }
                }
            }
        }
        return best;
    }

    private int choose(long cards) {
        if (!favourite) {
            return oneOf(cards);
        }
        return model.onTurn() == favoured ? strongest(cards) : weakest(cards);
    }

    private int strength(int card) {
        boolean isTrump = card % 8 == 7 || card / 8 == suit;
        return (card % 8 == 7 ? 20 + card / 8 : card % 8) + (isTrump ? 10 : 0);
    }

    private int strongest(long cards) {
        int best = -1;
        for (int card = 0; card < 32; card++) {
            if ((cards & 1L << card) != 0 && (best < 0 || strength(card) > strength(best))) {
                best = card;
            }
        }
        return best;
    }

    private int weakest(long cards) {
        int best = -1;
        for (int card = 0; card < 32; card++) {
            if ((cards & 1L << card) != 0 && (best < 0 || strength(card) < strength(best))) {
                best = card;
            }
        }
        return best;
    }

    private int oneOf(long cards) {
        int skip = random.nextInt(Math.max(1, Long.bitCount(cards)));
        for (int card = 0; card < 32; card++) {
            if ((cards & 1L << card) != 0 && skip-- == 0) {
                return card;
            }
        }
        return -1;
    }

    /** A move that may be impossible or out of range. */
    private void anyMove() {
        switch (random.nextInt(9)) {
            case 0:
                bid(random.nextInt(270) - 2);
                break;
            case 1:
                hold();
                break;
            case 2:
                pass();
                break;
            case 3:
                takeSkat();
                break;
            case 4:
                putAway(random.nextInt(35) - 1, random.nextInt(35) - 1);
                break;
            case 5:
                announce(random.nextInt(8) - 1, random.nextInt(6) - 1);
                break;
            case 6:
                deal(random.nextInt(8) == 0 ? random.nextInt() : -1);
                break;
            default:
                play(random.nextInt(36) - 2);
        }
    }

    private void deal(int number) {
        compare("deal(" + number + ")", () -> mill.deal(number), () -> model.deal(number));
    }

    private void bid(int value) {
        compare("bid(" + value + ")", () -> mill.bid(value), () -> model.bid(value));
    }

    private void hold() {
        compare("hold()", mill::hold, model::hold);
    }

    private void pass() {
        compare("pass()", mill::pass, model::pass);
    }

    private void takeSkat() {
        compare("takeSkat()", mill::takeSkat, model::takeSkat);
    }

    private void putAway(int one, int other) {
        compare("putAway(" + one + ", " + other + ")", () -> mill.putAway(one, other),
            () -> model.putAway(one, other));
    }

    private void announce(int contract, int extra) {
        compare("announce(" + contract + ", " + extra + ")", () -> mill.announce(contract, extra),
            () -> model.announce(contract, extra));
    }

    private void play(int card) {
        compare("play(" + card + ")", () -> mill.play(card), () -> model.play(card));
    }

    private void ask(int which) {
        int player = random.nextInt(8) == 0 ? random.nextInt(7) - 2 : random.nextInt(3);
        int contract = random.nextInt(8) == 0 ? random.nextInt(9) - 2 : random.nextInt(5);
        askOf(which, player, contract);
    }

    private void askAll() {
        for (int which = 0; which < 6; which++) {
            askOf(which, 0, 0);
        }
        for (int which = 7; which < 11; which++) {
            for (int player = 0; player < 3; player++) {
                askOf(which, player, 0);
            }
        }
        move();
    }

    private void askOf(int which, int player, int contract) {
        switch (which) {
            case 0:
                compare("phase()", mill::phase, model::phase);
                break;
            case 1:
                compare("onTurn()", mill::onTurn, model::onTurn);
                break;
            case 2:
                compare("latestBid()", mill::latestBid, model::latestBid);
                break;
            case 3:
                compare("declarer()", mill::declarer, model::declarer);
                break;
            case 4:
                compare("contract()", mill::contract, model::contract);
                break;
            case 5:
                compare("value()", mill::value, model::value);
                break;
            case 6:
                int number = random.nextInt(270) - 3;
                compare("nextBid(" + number + ")", () -> mill.nextBid(number), () -> model.nextBid(number));
                break;
            case 7:
                compare("hand(" + player + ")", () -> mill.hand(player), () -> model.hand(player));
                break;
            case 8:
                compare("points(" + player + ")", () -> mill.points(player), () -> model.points(player));
                break;
            case 9:
                compare("tricks(" + player + ")", () -> mill.tricks(player), () -> model.tricks(player));
                break;
            case 10:
                compare("score(" + player + ")", () -> mill.score(player), () -> model.score(player));
                break;
            default:
                compare("matadors(" + player + ", " + contract + ")", () -> mill.matadors(player, contract),
                    () -> model.matadors(player, contract));
                compare("inTrick(" + player + ")", () -> mill.inTrick(player), () -> model.inTrick(player));
                compare("playable()", mill::playable, model::playable);
        }
    }
}
