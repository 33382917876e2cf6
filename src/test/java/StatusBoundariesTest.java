import java.util.function.Consumer;

/** "Terms", ==== 4: each STATUS, which of several is the first that holds, and which calls have none. */
public final class StatusBoundariesTest {
    private static final Checks CHECKS = new Checks();
    private static final long NO_SET = 1L << 54;

    private static final Consumer<RummyTable> NO_GAME = x -> x.layout(set("4a 5a 6a J"));
    private static final Consumer<RummyTable> GAME = x -> x.deal(2, 4, 4687);
    private static final Consumer<RummyTable> OPENED = x -> {
        x.deal(2, 4, 4687);
        x.lay(set("10d 12d J"));
    };
    private static final Consumer<RummyTable> SECOND = x -> {
        x.deal(2, 4, 4687);
        x.lay(set("10d 12d J"));
        x.end();
    };
    private static final Consumer<RummyTable> WON = Boundary::won;
    private static final Consumer<RummyTable> RUN_OUT = x -> {
        x.deal(4, 13, 7);
        for (int i = 0; i < 6; i++) {
            x.end();
        }
    };

    public static void main(String[] args) {
        statusAtFirst();
        status0();
        status1();
        status2();
        status3();
        status4();
        status5();
        status6();
        status7();
        callsWithoutStatus();
        statusOfTheLatest();
        oneAheadOfTwoAndThree();
        twoAheadOfThree();
        oneAheadOfFour();
        fourAheadOfThePlayer();
        oneAheadOfFive();
        fourAheadOfSixAndSeven();
        fiveAheadOfSixAndSeven();
        sixAheadOfSevenAndThree();
        sevenAheadOfThree();
        threeBehindSeven();
        askedWhenOver();
        CHECKS.finish();
    }

    private static long set(String cards) {
        return Checks.set(cards);
    }

    private static Boundary at(String where, Consumer<RummyTable> setup) {
        return new Boundary(CHECKS, where, setup);
    }

    private static void statusAtFirst() {
        RummyTable x = new RummyTable();
        CHECKS.due("1: status", 0, x.status());
        CHECKS.due("1: status again", 0, x.status());
    }

    /** "0 else": behind each call that was refused before. */
    private static void status0() {
        Boundary behind = at("behind a refused call", x -> {
            x.deal(2, 4, 4687);
            x.ways(NO_SET);
        });
        behind.taken("ways", 0, x -> x.ways(1));
        behind.taken("layout", 0, x -> x.layout(0));
        behind.taken("best", 0, x -> x.best(0, 0, 0));
        behind.taken("worth", 0, x -> x.worth(0));
        behind.taken("opening", 1, x -> Boundary.orNone(x.opening(200)));
        behind.taken("deal", 1, x -> Boundary.orNone(x.deal(4, 13, 1)));
        behind.taken("hand", set("7a 10d 12d J"), x -> x.hand(0));
        behind.taken("table", 0, x -> x.table());
        behind.taken("tell", -1, x -> x.tell(3));
        behind.taken("player", 0, x -> x.player(1, 0));
        behind.taken("lay", 3, x -> x.lay(set("10d 12d J")));
        behind.taken("end", 31, x -> x.end());
        behind.taken("robot", 3, x -> x.robot(0));
    }

    /** "1 a number, or a SET, that can't be" */
    private static void status1() {
        for (Consumer<RummyTable> setup : java.util.List.of(NO_GAME, GAME, OPENED, WON)) {
            Boundary all = at("1", setup);
            all.refused("ways", 1, x -> x.ways(NO_SET));
            all.refused("layout", 1, x -> x.layout(NO_SET));
            all.refused("best, must", 1, x -> x.best(NO_SET, 0, 0));
            all.refused("best, may", 1, x -> x.best(0, NO_SET, 0));
            all.refused("best, aim", 1, x -> x.best(0, 0, 2));
            all.refused("worth", 1, x -> x.worth(NO_SET));
            all.refused("opening", 1, x -> Boundary.orNone(x.opening(201)));
            all.refused("deal, PLAYERS", 1, x -> Boundary.orNone(x.deal(5, 3, 7)));
            all.refused("deal, CARDS", 1, x -> Boundary.orNone(x.deal(2, 14, 7)));
            all.refused("deal, seed", 1, x -> Boundary.orNone(x.deal(2, 3, 0)));
            all.refused("deal, all", 1, x -> Boundary.orNone(x.deal(1, 0, -1)));
            all.refused("hand", 1, x -> x.hand(4));
            all.refused("tell", 1, x -> x.tell(7));
            all.refused("player, what", 1, x -> x.player(0, 3));
            all.refused("lay, no SET", 1, x -> x.lay(NO_SET));
            all.refused("lay, empty", 1, x -> x.lay(0));
            all.refused("robot", 1, x -> x.robot(2));
        }
    }

    /** "2 the first SET has a CARD of the second" */
    private static void status2() {
        at("2", NO_GAME).taken("none", 8, x -> x.best(7, 8, 0));
        at("2", NO_GAME).refused("one", 2, x -> x.best(7, 12, 0));
        at("2", OPENED).refused("all", 2, x -> x.best(7, 7, 1));
    }

    /** "3 there is no LAYOUT": of layout, of best, and of lay; ways has no 3. */
    private static void status3() {
        at("3", NO_GAME).refused("layout", 3, x -> x.layout(3));
        at("3", NO_GAME).refused("best", 3, x -> x.best(3, 0, 0));
        at("3", OPENED).refused("lay", 3, x -> x.lay(set("7a")));
        at("3", NO_GAME).taken("ways", 0, x -> x.ways(3));
        at("3", NO_GAME).taken("layout of one more", 1, x -> x.layout(7));
        at("3", NO_GAME).taken("best with one more", 4, x -> x.best(3, 4, 0));
    }

    /** "4 there is no GAME": also behind a deal that was refused. */
    private static void status4() {
        for (Consumer<RummyTable> setup : java.util.List.of(NO_GAME, (Consumer<RummyTable>) x -> x.deal(5, 3, 7))) {
            Boundary none = at("4", setup);
            none.refused("hand", 4, x -> x.hand(0));
            none.refused("table", 4, x -> x.table());
            none.refused("tell", 4, x -> x.tell(0));
            none.refused("player", 4, x -> x.player(0, 0));
            none.refused("lay", 4, x -> x.lay(7));
            none.refused("end", 4, x -> x.end());
            none.refused("robot", 4, x -> x.robot(0));
        }
        at("no 4", NO_GAME).taken("opening", 1, x -> Boundary.orNone(x.opening(7)));
        at("no 4", NO_GAME).taken("deal", 1, x -> Boundary.orNone(x.deal(2, 3, 7)));
    }

    /** "5 it is OVER": by an empty HAND, and by TURNS in a row. */
    private static void status5() {
        for (Consumer<RummyTable> setup : java.util.List.of(WON, RUN_OUT)) {
            Boundary over = at("5", setup);
            over.refused("lay", 5, x -> x.lay(set("13a 13b 13c")));
            over.refused("lay of the HAND", 5, x -> x.lay(x.hand(1)));
            over.refused("end", 5, x -> x.end());
            over.refused("robot(0)", 5, x -> x.robot(0));
            over.refused("robot(1)", 5, x -> x.robot(1));
        }
    }

    /** "6 a CARD that the HAND has not" */
    private static void status6() {
        at("6", GAME).taken("all of the HAND", 3, x -> x.lay(set("10d 12d J")));
        at("6", GAME).refused("one not", 6, x -> x.lay(set("10d 11d 12d")));
        at("6", GAME).refused("none of it", 6, x -> x.lay(set("3a 3c 3d")));
        at("6", OPENED).refused("what lies", 6, x -> x.lay(set("10d")));
    }

    /** "7 OPENING: not LAYABLE by itself, or of too little WORTH" */
    private static void status7() {
        at("7", GAME).refused("not LAYABLE", 7, x -> x.lay(set("7a 10d 12d J")));
        at("7", SECOND).refused("too little WORTH", 7, x -> x.lay(set("3a 3c 3d")));
        at("7", OPENED).refused("OPENED has no 7", 3, x -> x.lay(set("7a")));
    }

    /** "What tells of a LAYOUT, status() have none." */
    private static void callsWithoutStatus() {
        for (int status = 0; status <= 7; status++) {
            RummyTable x = withStatus(status);
            CHECKS.due("2: status", status, x.status());
            x.place(0);
            x.place(51);
            x.place(52);
            x.place(-1);
            CHECKS.due("2: place has none", status, x.status());
            x.stands(0);
            x.stands(52);
            x.stands(Integer.MIN_VALUE);
            CHECKS.due("2: stands has none", status, x.status());
            x.shows(0);
            x.shows(5);
            x.shows(6);
            x.shows(-1);
            CHECKS.due("2: shows has none", status, x.status());
            CHECKS.due("2: status has none", status, x.status());
        }
    }

    private static RummyTable withStatus(int status) {
        RummyTable x = new RummyTable();
        switch (status) {
            case 1:
                x.ways(NO_SET);
                break;
            case 2:
                x.best(1, 1, 0);
                break;
            case 3:
                x.layout(1);
                break;
            case 4:
                x.table();
                break;
            case 5:
                WON.accept(x);
                x.end();
                break;
            case 6:
                GAME.accept(x);
                x.lay(1);
                break;
            case 7:
                GAME.accept(x);
                x.lay(set("7a"));
                break;
            default:
                x.ways(0);
        }
        return x;
    }

    /** "STATUS of the latest call that has one" */
    private static void statusOfTheLatest() {
        for (int status = 0; status <= 7; status++) {
            RummyTable x = withStatus(status);
            x.worth(0);
            CHECKS.due("2: 0 behind " + status, 0, x.status());
            x = withStatus(status);
            x.worth(-1);
            CHECKS.due("2: 1 behind " + status, 1, x.status());
            x.best(1, 1, 1);
            CHECKS.due("2: 2 behind 1", 2, x.status());
            x.layout(1);
            CHECKS.due("2: 3 behind 2", 3, x.status());
        }
    }

    private static void oneAheadOfTwoAndThree() {
        Boundary all = at("1 ahead of 2, 3", NO_GAME);
        all.refused("both no SETS, shared", 1, x -> x.best(NO_SET | 7, NO_SET | 7, 0));
        all.refused("no SET, shared", 1, x -> x.best(NO_SET | 7, 7, 0));
        all.refused("no AIM, shared", 1, x -> x.best(7, 7, 2));
        all.refused("no AIM, no LAYOUT", 1, x -> x.best(3, 0, -1));
        all.refused("no SET, no LAYOUT", 1, x -> x.best(3, NO_SET, 0));
        all.refused("layout, no SET and no LAYOUT", 1, x -> x.layout(NO_SET | 3));
    }

    private static void twoAheadOfThree() {
        at("2 ahead of 3", NO_GAME).refused("shared, no LAYOUT", 2, x -> x.best(3, 1, 0));
        at("2 ahead of 3", NO_GAME).refused("not shared, no LAYOUT", 3, x -> x.best(3, 16, 0));
    }

    /** hand, tell, player, lay and robot ask for what can't be ahead of the GAME. */
    private static void oneAheadOfFour() {
        Boundary none = at("1 ahead of 4", NO_GAME);
        none.refused("hand(-1)", 1, x -> x.hand(-1));
        none.refused("hand(4)", 1, x -> x.hand(4));
        none.refused("tell(-1)", 1, x -> x.tell(-1));
        none.refused("tell(7)", 1, x -> x.tell(7));
        none.refused("player(0, 3)", 1, x -> x.player(0, 3));
        none.refused("player(9, -1)", 1, x -> x.player(9, -1));
        none.refused("lay(0)", 1, x -> x.lay(0));
        none.refused("lay of no SET", 1, x -> x.lay(NO_SET));
        none.refused("robot(2)", 1, x -> x.robot(2));
    }

    private static void fourAheadOfThePlayer() {
        at("4 ahead of 1", NO_GAME).refused("hand(3)", 4, x -> x.hand(3));
        at("4 ahead of 1", NO_GAME).refused("player(4, 0)", 4, x -> x.player(4, 0));
        at("4 ahead of 1", NO_GAME).refused("player(-1, 2)", 4, x -> x.player(-1, 2));
        at("1 behind 4", GAME).refused("hand(2)", 1, x -> x.hand(2));
        at("1 behind 4", GAME).refused("hand(3)", 1, x -> x.hand(3));
        at("1 behind 4", GAME).refused("player(2, 0)", 1, x -> x.player(2, 0));
        at("1 behind 4", GAME).refused("player(-1, 2)", 1, x -> x.player(-1, 2));
    }

    private static void oneAheadOfFive() {
        for (Consumer<RummyTable> setup : java.util.List.of(WON, RUN_OUT)) {
            at("1 ahead of 5", setup).refused("lay(0)", 1, x -> x.lay(0));
            at("1 ahead of 5", setup).refused("lay of no SET", 1, x -> x.lay(NO_SET));
            at("1 ahead of 5", setup).refused("robot(2)", 1, x -> x.robot(2));
        }
    }

    private static void fourAheadOfSixAndSeven() {
        at("4 ahead of 6, 7, 3", NO_GAME).refused("lay of a CARD", 4, x -> x.lay(1));
    }

    private static void fiveAheadOfSixAndSeven() {
        at("5 ahead of 6", WON).refused("what lies", 5, x -> x.lay(set("10a")));
        at("5 ahead of 6", RUN_OUT).refused("another's", 5, x -> x.lay(x.hand(0) & -x.hand(0)));
        at("5 ahead of 7", RUN_OUT).refused("a CARD of the HAND", 5, x -> x.lay(x.hand(2) & -x.hand(2)));
    }

    private static void sixAheadOfSevenAndThree() {
        at("6 ahead of 7", GAME).refused("not held, not LAYABLE", 6, x -> x.lay(set("3a")));
        at("6 ahead of 7", GAME).refused("not held, too little", 6, x -> x.lay(set("3a 3c 3d")));
        at("6 ahead of 3", OPENED).refused("not held, no LAYOUT", 6, x -> x.lay(set("3a 7a")));
    }

    private static void sevenAheadOfThree() {
        at("7 ahead of 3", SECOND).refused("neither by itself nor with the TABLE", 7, x -> x.lay(set("3a")));
        at("7", SECOND).refused("with the TABLE, not by itself", 7, x -> x.lay(set("11d")));
        at("7 ahead of 3", x -> {
            x.opening(0);
            x.deal(2, 13, 1712);
            x.lay(set("2d 3a 3b 3c 3d 4d"));
            x.end();
            x.opening(200);
        }).refused("too little, and not with the TABLE", 7, x -> x.lay(set("1a 2a 5a 5c 5d K")));
    }

    private static void threeBehindSeven() {
        at("3 behind 7", x -> {
            x.opening(0);
            x.deal(2, 13, 1712);
            x.lay(set("2d 3a 3b 3c 3d 4d"));
            x.end();
        }).refused("enough, but not with the TABLE", 3, x -> x.lay(set("1a 2a 5a 5c 5d K")));
    }

    /** What only asks is asked of a GAME that is OVER as of any other; a new one may be dealt. */
    private static void askedWhenOver() {
        Boundary over = at("OVER", WON);
        over.taken("hand", 0, x -> x.hand(0));
        over.taken("table", set("10a 10b 10c"), x -> x.table());
        over.taken("tell", 1, x -> x.tell(2));
        over.taken("player", 1, x -> x.player(0, 0));
        over.taken("opening", 1, x -> Boundary.orNone(x.opening(0)));
        over.taken("ways", 1, x -> x.ways(7));
        over.taken("layout", 1, x -> x.layout(7));
        over.taken("best", 8, x -> x.best(7, 8, 0));
        RummyTable x = over.taken("deal", 1, y -> Boundary.orNone(y.deal(2, 3, 987)));
        CHECKS.due("a new GAME is not OVER", 0, x.tell(2));
        CHECKS.due("a new GAME is played", 3, x.lay(set("10a 10b 10c")));
    }
}
