import java.util.Random;

/** SETS and LAYOUTS (promises 2 to 9) beside the model, over many random SETS of several kinds. */
public final class RandomSetsTest {
    private static final Checks CHECKS = new Checks();
    private static RummyTable real;
    private static Model model;

    public static void main(String[] args) {
        Random random = new Random(20261116);
        for (int round = 0; round < 400; round++) {
            real = new RummyTable();
            model = new Model();
            for (int i = 0; i < 12; i++) {
                setsRound(random, round);
            }
        }
        for (int round = 0; round < 40; round++) {
            real = new RummyTable();
            model = new Model();
            denseRound(random, round % 2);
        }
        for (int round = 0; round < 1000; round++) {
            real = new RummyTable();
            model = new Model();
            tightRound(random, round % 2);
        }
        CHECKS.finish();
    }

    /** RUNS from 1 to 13 have no end where a JOKER would fit, so it takes another CARD's place, or none. */
    private static void tightRound(Random random, int aim) {
        long run = 0x1111111111111L;
        long may = run << random.nextInt(4);
        may |= random.nextInt(3) == 0 ? run << random.nextInt(4) : 0;
        int extras = random.nextInt(5);
        for (int i = 0; i < extras; i++) {
            may |= 1L << random.nextInt(52);
        }
        may |= (long) random.nextInt(4) << 52;
        long must = 0;
        int needed = random.nextInt(3);
        for (int i = 0; i < needed; i++) {
            must |= 1L << random.nextInt(54);
        }
        askBest(must, may & ~must, aim);
    }

    /** Many CARDS at once, up to all: the model is slow there, so there are few of these. */
    private static void denseRound(Random random, int aim) {
        long must = 0;
        long may = 0;
        double share = random.nextDouble();
        double part = random.nextDouble();
        for (int card = 0; card < 54; card++) {
            if (random.nextDouble() < share) {
                boolean needed = random.nextDouble() < part;
                must |= needed ? 1L << card : 0;
                may |= needed ? 0 : 1L << card;
            }
        }
        askBest(must, may, aim);
    }

    private static void askBest(long must, long may, int aim) {
        String call = "best(" + must + ", " + may + ", " + aim + ")";
        long best = model.best(must, may, aim);
        CHECKS.due(call, best, real.best(must, may, aim));
        askStatus();
        askLayout(call);
        long all = must | Math.max(0, best);
        CHECKS.due("ways(" + all + ")", model.ways(all), real.ways(all));
    }

    private static void setsRound(Random random, int round) {
        long set = someSet(random, round);
        CHECKS.due("ways(" + set + ")", model.ways(set), real.ways(set));
        askStatus();
        CHECKS.due("layout(" + set + ")", model.layout(set), real.layout(set));
        askStatus();
        askLayout("layout(" + set + ")");
        CHECKS.due("worth(" + set + ")", model.worth(set), real.worth(set));
        askStatus();
        long must = random.nextInt(3) == 0 ? 0 : someSet(random, round);
        long may = someSet(random, round);
        if (random.nextInt(20) != 0) {
            may &= ~must;
        }
        int aim = random.nextInt(30) == 0 ? random.nextInt() : random.nextInt(2);
        askBest(must, may, aim);
    }

    private static void askStatus() {
        CHECKS.due("status()", model.status, real.status());
    }

    private static void askLayout(String after) {
        for (int card = -1; card <= 54; card++) {
            CHECKS.due(after + " place(" + card + ")", model.place(card), real.place(card));
            CHECKS.due(after + " stands(" + card + ")", model.stands(card), real.stands(card));
        }
        for (int what = -1; what <= 7; what++) {
            CHECKS.due(after + " shows(" + what + ")", model.shows(what), real.shows(what));
        }
    }

    /** Melds thrown together, random CARDS, or CARDS of a few NUMBERS; JOKERS now and then. */
    private static long someSet(Random random, int round) {
        long set = 0;
        int kind = random.nextInt(4);
        if (kind == 0) {
            int many = random.nextInt(9);
            for (int i = 0; i < many; i++) {
                set |= 1L << random.nextInt(52);
            }
        } else if (kind == 1) {
            int low = random.nextInt(10);
            int many = random.nextInt(13);
            for (int i = 0; i < many; i++) {
                set |= 1L << (4 * low + random.nextInt(16));
            }
        } else {
            set = someMelds(random, 1 + random.nextInt(5));
            if (random.nextInt(2) == 0 && set != 0) {
                set &= ~(1L << random.nextInt(52));
            }
        }
        int jokers = random.nextInt(6);
        if (jokers < 4) {
            set |= (long) jokers << 52;
        }
        if (random.nextInt(60) == 0) {
            set |= 1L << (54 + random.nextInt(10));
        }
        return set;
    }

    private static long someMelds(Random random, int many) {
        long set = 0;
        for (int i = 0; i < many; i++) {
            if (random.nextBoolean()) {
                int number = random.nextInt(13);
                set |= (15L & ~(random.nextBoolean() ? 0 : 1 << random.nextInt(4))) << (4 * number);
            } else {
                int length = 3 + random.nextInt(4);
                int low = random.nextInt(14 - length);
                int colour = random.nextInt(4);
                for (int k = 0; k < length; k++) {
                    set |= 1L << (4 * (low + k) + colour);
                }
            }
        }
        return set;
    }
}
