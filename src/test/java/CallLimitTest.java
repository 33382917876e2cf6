import java.util.Random;

/** "An object is used for at most 512 calls after it has been made": all 512 are kept to. */
public final class CallLimitTest {
    private static final Checks CHECKS = new Checks();
    private static final int CALLS = 512;
    private static final long ALL = (1L << 54) - 1;

    public static void main(String[] args) {
        theLastOfEachKind();
        theDearest();
        refusedCalls();
        mixedCalls();
        CHECKS.finish();
    }

    /** 511 calls, the same again and again, and then one whose answer is known. */
    private static RummyTable nearTheEnd(int kind) {
        RummyTable x = new RummyTable();
        x.deal(2, 3, 987);
        for (int i = 2; i < CALLS - 1; i++) {
            switch (kind) {
                case 0:
                    x.status();
                    break;
                case 1:
                    x.ways(ALL >>> 2);
                    break;
                case 2:
                    x.layout(ALL >>> 2);
                    break;
                case 3:
                    x.deal(4, 13, i);
                    break;
                case 4:
                    x.robot(i % 2);
                    break;
                default:
                    x.end();
            }
        }
        if (kind < 4) {
            x.deal(2, 3, 987);
        } else {
            x.table();
        }
        return x;
    }

    private static void theLastOfEachKind() {
        long tens = 7L << 36;
        for (int kind = 0; kind < 4; kind++) {
            CHECKS.due("512th: ways", 2, nearTheEnd(kind).ways(3L | 1L << 52));
            CHECKS.due("512th: layout", 13, nearTheEnd(kind).layout(ALL >>> 2));
            CHECKS.due("512th: best", ALL >>> 2, nearTheEnd(kind).best(0, ALL, 0));
            CHECKS.due("512th: worth", 380, nearTheEnd(kind).worth(ALL));
            CHECKS.due("512th: opening", true, nearTheEnd(kind).opening(200));
            CHECKS.due("512th: deal", true, nearTheEnd(kind).deal(4, 13, 1));
            CHECKS.due("512th: hand", tens, nearTheEnd(kind).hand(0));
            CHECKS.due("512th: table", 0, nearTheEnd(kind).table());
            CHECKS.due("512th: tell", 48, nearTheEnd(kind).tell(1));
            CHECKS.due("512th: player", 30, nearTheEnd(kind).player(0, 2));
            CHECKS.due("512th: lay", 3, nearTheEnd(kind).lay(tens));
            CHECKS.due("512th: end", 11, nearTheEnd(kind).end());
            CHECKS.due("512th: robot", 3, nearTheEnd(kind).robot(0));
            CHECKS.due("512th: refused", -1, nearTheEnd(kind).lay(0));
            CHECKS.due("512th: status", 0, nearTheEnd(kind).status());
        }
        CHECKS.due("512th: place", 1, nearTheEnd(4).place(36));
        CHECKS.due("512th: stands", 0, nearTheEnd(4).stands(36));
        CHECKS.due("512th: shows", 30, nearTheEnd(4).shows(4));
        // Two with three CARDS: 48 TURNS with a CARD, then 2 without.
        CHECKS.due("512th: tell", 50, nearTheEnd(5).tell(4));
    }

    private static void theDearest() {
        RummyTable x = new RummyTable();
        for (int i = 0; i < CALLS; i++) {
            int aim = i % 2;
            CHECKS.due("best of all, call " + (i + 1), aim == 0 ? ALL >>> 2 : ALL & ~12L, x.best(0, ALL, aim));
        }
    }

    private static void refusedCalls() {
        RummyTable x = new RummyTable();
        for (int i = 1; i < CALLS; i++) {
            CHECKS.due("refused, call " + i, -1, i % 2 == 0 ? x.ways(-1) : x.end());
        }
        CHECKS.due("512th: status", 4, x.status());
    }

    /** Calls of all kinds beside the model, just 512 on each object. */
    private static void mixedCalls() {
        Random random = new Random(512);
        for (int round = 0; round < 30; round++) {
            RummyTable x = new RummyTable();
            Model model = new Model();
            for (int call = 1; call <= CALLS; call++) {
                ask("round " + round + ", call " + call, x, model, random);
            }
        }
    }

    private static void ask(String when, RummyTable x, Model model, Random random) {
        long few = random.nextLong() & random.nextLong() & random.nextLong() & ALL;
        int small = random.nextInt(9) - 2;
        switch (random.nextInt(16)) {
            case 0:
                CHECKS.due(when + ": status", model.status, x.status());
                break;
            case 1:
                CHECKS.due(when + ": ways", model.ways(few), x.ways(few));
                break;
            case 2:
                CHECKS.due(when + ": layout", model.layout(few), x.layout(few));
                break;
            case 3:
                CHECKS.due(when + ": best", model.best(0, few, small), x.best(0, few, small));
                break;
            case 4:
                CHECKS.due(when + ": place", model.place(7 * small), x.place(7 * small));
                break;
            case 5:
                CHECKS.due(when + ": stands", model.stands(7 * small), x.stands(7 * small));
                break;
            case 6:
                CHECKS.due(when + ": shows", model.shows(small), x.shows(small));
                break;
            case 7:
                CHECKS.due(when + ": worth", model.worth(few), x.worth(few));
                break;
            default:
                play(when, x, model, random, small);
        }
    }

    private static void play(String when, RummyTable x, Model model, Random random, int small) {
        int seed = random.nextInt();
        switch (random.nextInt(12)) {
            case 0:
                CHECKS.due(when + ": opening", model.opening(40 * small), x.opening(40 * small));
                break;
            case 1:
                CHECKS.due(when + ": deal", model.deal(small, 5, seed), x.deal(small, 5, seed));
                break;
            case 2:
                CHECKS.due(when + ": hand", model.hand(small), x.hand(small));
                break;
            case 3:
                CHECKS.due(when + ": table", model.table(), x.table());
                break;
            case 4:
                CHECKS.due(when + ": tell", model.tell(small), x.tell(small));
                break;
            case 5:
                CHECKS.due(when + ": player", model.player(small, seed & 3), x.player(small, seed & 3));
                break;
            case 6:
                CHECKS.due(when + ": lay", model.lay(1L << (seed & 63)), x.lay(1L << (seed & 63)));
                break;
            case 7:
                CHECKS.due(when + ": end", model.end(), x.end());
                break;
            default:
                CHECKS.due(when + ": robot", model.robot(seed & 1), x.robot(seed & 1));
        }
    }
}
