import java.util.Random;

/** Whole GAMES (promises 10 to 18) beside the model: robots, random LAYINGS, and calls that can't be. */
public final class RandomGamesTest {
    private static final Checks CHECKS = new Checks();
    private static final int[] STATUSES = new int[8];
    private static RummyTable real;
    private static Model model;
    private static int ended;
    private static int won;

    public static void main(String[] args) {
        Random random = new Random(48271);
        for (int round = 0; round < 250; round++) {
            real = new RummyTable();
            model = new Model();
            playRound(random, round);
        }
        for (int status = 0; status < STATUSES.length; status++) {
            if (status != 2) {
                CHECKS.due("STATUS " + status + " was met", true, STATUSES[status] > 0);
            }
        }
        CHECKS.due("a GAME was won", true, won > 0);
        CHECKS.due("a GAME ended without a winner", true, ended > won);
        CHECKS.finish();
    }

    private static void playRound(Random random, int round) {
        if (round % 10 == 0) {
            askState("no GAME");
            act(random);
        }
        int worth = random.nextInt(4) == 0 ? 30 : random.nextInt(40);
        CHECKS.due("opening(" + worth + ")", model.opening(worth), real.opening(worth));
        String deal = newDeal(random);
        int bound = round % 3 == 0 ? 400 : 60;
        for (int i = 0; i < bound && model.tell(2) == 0; i++) {
            act(random);
            askState(deal + " act " + i);
            if (random.nextInt(80) == 0) {
                deal = newDeal(random);
            }
        }
        if (model.tell(2) == 1) {
            ended++;
            won += model.tell(3) >= 0 ? 1 : 0;
            for (int i = 0; i < 5; i++) {
                act(random);
                askState(deal + " over");
            }
        }
    }

    private static String newDeal(Random random) {
        int players = 2 + random.nextInt(3);
        int many = 1 + random.nextInt(13);
        int seed = 1 + random.nextInt(2147483646);
        String deal = "deal(" + players + ", " + many + ", " + seed + ")";
        CHECKS.due(deal, model.deal(players, many, seed), real.deal(players, many, seed));
        askState(deal);
        return deal;
    }

    private static void act(Random random) {
        int kind = random.nextInt(12);
        if (kind < 5) {
            int aim = random.nextInt(20) == 0 ? 2 : random.nextInt(2);
            CHECKS.due("robot(" + aim + ")", model.robot(aim), real.robot(aim));
        } else if (kind < 8) {
            CHECKS.due("end()", model.end(), real.end());
        } else {
            long cards = someCards(random);
            CHECKS.due("lay(" + cards + ")", model.lay(cards), real.lay(cards));
        }
        int status = model.status;
        STATUSES[status]++;
        CHECKS.due("status()", status, real.status());
        if (random.nextInt(30) == 0) {
            int worth = random.nextInt(260) - 30;
            CHECKS.due("opening(" + worth + ")", model.opening(worth), real.opening(worth));
        }
        if (random.nextInt(40) == 0) {
            CHECKS.due("deal(5, 3, 1)", model.deal(5, 3, 1), real.deal(5, 3, 1));
        }
    }

    /** Mostly a part of the HAND that can be laid; also any part, the CARDS of others, and no SET at all. */
    private static long someCards(Random random) {
        int player = Math.max(0, model.tell(0));
        long hand = Math.max(0, model.hand(player));
        long table = Math.max(0, model.table());
        int kind = random.nextInt(8);
        if (kind < 2) {
            Model side = new Model();
            return Math.max(0, side.best(0, hand, kind));
        }
        if (kind < 4) {
            Model side = new Model();
            return Math.max(0, side.best(table, hand, kind - 2));
        }
        if (kind == 4) {
            return hand & random.nextLong();
        }
        if (kind == 5) {
            return hand;
        }
        return kind == 6 ? 1L << random.nextInt(56) : random.nextLong() >>> 10;
    }

    private static void askState(String when) {
        for (int what = -1; what <= 7; what++) {
            CHECKS.due(when + " tell(" + what + ")", model.tell(what), real.tell(what));
            CHECKS.due(when + " status()", model.status, real.status());
        }
        CHECKS.due(when + " table()", model.table(), real.table());
        for (int player = -1; player <= 4; player++) {
            CHECKS.due(when + " hand(" + player + ")", model.hand(player), real.hand(player));
            CHECKS.due(when + " status()", model.status, real.status());
            for (int what = -1; what <= 3; what++) {
                CHECKS.due(when + " player(" + player + ", " + what + ")",
                        model.player(player, what), real.player(player, what));
                CHECKS.due(when + " status()", model.status, real.status());
            }
        }
        for (int card = 0; card < 52; card++) {
            CHECKS.due(when + " place(" + card + ")", model.place(card), real.place(card));
            CHECKS.due(when + " stands(" + card + ")", model.stands(card), real.stands(card));
        }
        for (int what = 0; what <= 5; what++) {
            CHECKS.due(when + " shows(" + what + ")", model.shows(what), real.shows(what));
        }
    }
}
