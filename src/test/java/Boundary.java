import java.util.function.Consumer;
import java.util.function.ToLongFunction;

/**
 * Asks calls at both sides of a boundary, each on an object of its own that a setup has brought there. A
 * refused call is asked beside a twin that never had it: any trace that it leaves shows in what both tell,
 * and in how both play on.
 */
final class Boundary {
    private static final int TURNS_PLAYED_ON = 60;

    private final Checks checks;
    private final String where;
    private final Consumer<RummyTable> setup;

    Boundary(Checks checks, String where, Consumer<RummyTable> setup) {
        this.checks = checks;
        this.where = where + ": ";
        this.setup = setup;
    }

    /** A boolean answer as one of a number: false is NONE. */
    static long orNone(boolean answer) {
        return answer ? 1 : RummyTable.NONE;
    }

    /** A setup: a GAME with an OPENING, and so many TURNS that ended without a LAYING. */
    static Consumer<RummyTable> ended(int players, int many, int seed, int opening, int turns) {
        return x -> {
            x.opening(opening);
            x.deal(players, many, seed);
            for (int i = 0; i < turns; i++) {
                x.end();
            }
        };
    }

    /** A setup: PLAYER 0 has laid 10a 10b 10c, all of the HAND. */
    static void won(RummyTable x) {
        x.deal(2, 3, 987);
        x.lay(x.hand(0));
    }

    RummyTable made() {
        RummyTable x = new RummyTable();
        setup.accept(x);
        return x;
    }

    /** A call that has STATUS 0; the object comes back, for what is asked behind it. */
    RummyTable taken(String call, long answer, ToLongFunction<RummyTable> asked) {
        RummyTable x = made();
        checks.due(where + call, answer, asked.applyAsLong(x));
        checks.due(where + "status of " + call, 0, x.status());
        return x;
    }

    /** A call that gives NONE, or false, with this STATUS, and changes nothing else. */
    void refused(String call, int status, ToLongFunction<RummyTable> asked) {
        RummyTable x = made();
        RummyTable twin = made();
        checks.due(where + call, RummyTable.NONE, asked.applyAsLong(x));
        checks.due(where + "status of " + call, status, x.status());
        sameLayout(x, twin, where + "behind " + call + ", ");
        checks.due(where + "status is still that of " + call, status, x.status());
        sameGame(x, twin, where + "behind " + call + ", ");
        playOn(x, twin, where + "long behind " + call + ", ");
    }

    private void sameLayout(RummyTable x, RummyTable twin, String when) {
        for (int card = 0; card < 52; card++) {
            checks.due(when + "place(" + card + ")", twin.place(card), x.place(card));
            checks.due(when + "stands(" + card + ")", twin.stands(card), x.stands(card));
        }
        for (int what = 0; what <= 5; what++) {
            checks.due(when + "shows(" + what + ")", twin.shows(what), x.shows(what));
        }
    }

    private void sameGame(RummyTable x, RummyTable twin, String when) {
        checks.due(when + "table()", twin.table(), x.table());
        for (int what = 0; what <= 6; what++) {
            checks.due(when + "tell(" + what + ")", twin.tell(what), x.tell(what));
        }
        for (int player = 0; player < 4; player++) {
            checks.due(when + "hand(" + player + ")", twin.hand(player), x.hand(player));
            for (int what = 0; what <= 2; what++) {
                checks.due(when + "player(" + player + ", " + what + ")", twin.player(player, what),
                        x.player(player, what));
            }
        }
    }

    /** The order of the STOCK, the TURNS in a row without anything, and the OPENING show only in play. */
    private void playOn(RummyTable x, RummyTable twin, String when) {
        for (int turn = 0; turn < TURNS_PLAYED_ON; turn++) {
            if (turn % 3 == 0) {
                checks.due(when + "robot of TURN " + turn, twin.robot(turn % 2), x.robot(turn % 2));
            } else {
                checks.due(when + "end of TURN " + turn, twin.end(), x.end());
            }
        }
        sameGame(x, twin, when);
        // 9b 10b and a JOKER show 29, 10a 10b 10c show 30.
        for (int seed : new int[] {304, 987}) {
            x.deal(2, 3, seed);
            twin.deal(2, 3, seed);
            checks.due(when + "lay of seed " + seed, twin.lay(twin.hand(0)), x.lay(x.hand(0)));
            checks.due(when + "its status", twin.status(), x.status());
        }
        sameLayout(x, twin, when);
    }
}
