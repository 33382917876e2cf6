import java.util.function.Consumer;

/** "Terms", ==== 3, at its boundaries: PLAYERS, CARDS DEALT, the STOCK, TURNS that END, and when it is OVER. */
public final class GameBoundariesTest {
    private static final Checks CHECKS = new Checks();
    private static final int LAST_SEED = 2147483646;
    private static final int[] FAR = {Integer.MIN_VALUE, -7, -1, 99, Integer.MAX_VALUE};

    /** The 54 CARDS as three seeds DEAL them, worked out apart from this program. */
    private static final int[] OF_SEED_1 = {13, 20, 7, 29, 0, 1, 32, 15, 38, 51, 40, 35, 28, 47, 24, 52, 12, 43, 50,
        16, 6, 25, 5, 42, 37, 23, 53, 48, 10, 27, 22, 4, 8, 34, 30, 44, 9, 39, 36, 45, 31, 3, 21, 19, 11, 33, 26, 17,
        14, 41, 46, 2, 18, 49};
    private static final int[] OF_SEED_7 = {22, 32, 4, 30, 7, 34, 48, 14, 41, 39, 50, 12, 43, 33, 49, 16, 25, 0, 36,
        52, 35, 13, 31, 9, 10, 23, 15, 37, 28, 38, 47, 2, 21, 24, 8, 18, 11, 29, 45, 3, 44, 17, 40, 46, 27, 42, 1, 51,
        6, 5, 53, 26, 20, 19};
    private static final int[] OF_LAST_SEED = {31, 20, 9, 28, 39, 15, 49, 43, 23, 5, 19, 35, 22, 17, 51, 36, 38, 3,
        45, 11, 16, 52, 24, 33, 25, 0, 46, 1, 32, 50, 10, 34, 37, 53, 27, 8, 12, 44, 13, 47, 7, 40, 48, 4, 26, 18, 41,
        14, 29, 6, 30, 21, 2, 42};

    public static void main(String[] args) {
        twoToFourPlayers();
        oneToThirteenCards();
        seeds();
        orderOfTheDeal();
        newGame();
        handsOfThePlayersThereAre();
        tableOfAGame();
        whatIsTold();
        whatIsToldOfAPlayer();
        stockRunsOut();
        nextBehindTheLast();
        endsWithoutALaying();
        endsWithALaying();
        refusedLayingIsNone();
        overByAnEmptyHand();
        overByTurnsInARow();
        layingBreaksTheRow();
        cardBreaksTheRow();
        endWithoutAGame();
        endWhenOver();
        CHECKS.finish();
    }

    private static long set(String cards) {
        return Checks.set(cards);
    }

    private static long setOf(int[] pack, int from, int many) {
        long cards = 0;
        for (int i = from; i < from + many; i++) {
            cards |= 1L << pack[i];
        }
        return cards;
    }

    private static Consumer<RummyTable> dealt(int players, int many, int seed) {
        return x -> x.deal(players, many, seed);
    }

    private static Consumer<RummyTable> ended(int players, int many, int seed, int turns) {
        return Boundary.ended(players, many, seed, 30, turns);
    }

    private static Boundary at(String where, Consumer<RummyTable> setup) {
        return new Boundary(CHECKS, where, setup);
    }

    private static void dealTaken(int players, int many, int seed) {
        String call = "deal(" + players + ", " + many + ", " + seed + ")";
        RummyTable x = at("11, no GAME", y -> { }).taken(call, 1, y -> Boundary.orNone(y.deal(players, many, seed)));
        CHECKS.told(call, x, 0, 54 - players * many, 0, -1, 0, 0, players);
        at("11, in a GAME", ended(2, 3, 7, 3)).taken(call, 1, y -> Boundary.orNone(y.deal(players, many, seed)));
    }

    private static void dealRefused(int players, int many, int seed) {
        String call = "deal(" + players + ", " + many + ", " + seed + ")";
        at("11, no GAME", x -> x.layout(7)).refused(call, 1, x -> Boundary.orNone(x.deal(players, many, seed)));
        at("11, in a GAME", ended(3, 13, 7, 3)).refused(call, 1, x -> Boundary.orNone(x.deal(players, many, seed)));
    }

    /** "A GAME has 2 to 4 PLAYERS" */
    private static void twoToFourPlayers() {
        dealRefused(0, 3, 7);
        dealRefused(1, 3, 7);
        dealTaken(2, 3, 7);
        dealTaken(3, 3, 7);
        dealTaken(4, 3, 7);
        dealRefused(5, 3, 7);
        for (int players : FAR) {
            dealRefused(players, 3, 7);
        }
    }

    /** "each with so many CARDS (1 to 13)" */
    private static void oneToThirteenCards() {
        for (int players = 2; players <= 4; players++) {
            dealRefused(players, 0, 7);
            dealTaken(players, 1, 7);
            dealTaken(players, 13, 7);
            dealRefused(players, 14, 7);
        }
        for (int many : FAR) {
            dealRefused(2, many, 7);
        }
    }

    /** "DEALT from a seed (1 to 2147483646)" */
    private static void seeds() {
        dealRefused(2, 3, 0);
        dealTaken(2, 3, 1);
        dealTaken(2, 3, LAST_SEED);
        dealRefused(2, 3, Integer.MAX_VALUE);
        dealRefused(2, 3, -1);
        dealRefused(2, 3, Integer.MIN_VALUE);
        dealRefused(2, 3, Integer.MIN_VALUE + 1);
    }

    /** "PLAYER 0 gets the first ones, so many, PLAYER 1 the next ones, and so on; what is left is the STOCK" */
    private static void orderOfTheDeal() {
        for (int players = 2; players <= 4; players++) {
            for (int many : new int[] {1, 5, 13}) {
                dealtAs(OF_SEED_1, players, many, 1);
                dealtAs(OF_SEED_7, players, many, 7);
                dealtAs(OF_LAST_SEED, players, many, LAST_SEED);
            }
        }
    }

    private static void dealtAs(int[] pack, int players, int many, int seed) {
        String when = "11: " + players + " with " + many + " of seed " + seed;
        RummyTable x = new RummyTable();
        x.deal(players, many, seed);
        for (int p = 0; p < players; p++) {
            CHECKS.due(when + ": hand(" + p + ")", setOf(pack, p * many, many), x.hand(p));
        }
        for (int i = players * many; i < 54; i++) {
            CHECKS.due(when + ": CARD " + i, pack[i], x.end());
        }
        CHECKS.due(when + ": no more", 54, x.end());
    }

    /** "The TABLE is empty. PLAYER 0 plays first.": also behind a GAME of which nothing stays. */
    private static void newGame() {
        RummyTable x = new RummyTable();
        x.deal(4, 3, 91);
        x.end();
        x.end();
        x.end();
        x.lay(set("13a 13b 13c"));
        CHECKS.told("a GAME that was won", x, 3, 42 - 3, 1, 3, 3, 1, 4);
        x.deal(3, 3, 987);
        CHECKS.told("a new GAME", x, 0, 45, 0, -1, 0, 0, 3);
        CHECKS.due("11: TABLE", 0, x.table());
        for (int p = 0; p < 3; p++) {
            CHECKS.due("11: has not OPENED", 0, x.player(p, 0));
            CHECKS.due("11: CARDS", 3, x.player(p, 1));
        }
        CHECKS.due("11: the 4th PLAYER is gone", -1, x.hand(3));
        CHECKS.due("11: 30", 3, x.lay(set("10a 10b 10c")));
        // The row of TURNS without anything begins anew, too.
        x.deal(4, 13, 7);
        for (int i = 0; i < 2 + 3; i++) {
            x.end();
        }
        x.deal(4, 13, 7);
        for (int i = 0; i < 2 + 3; i++) {
            x.end();
        }
        CHECKS.due("11: not OVER", 0, x.tell(2));
        x.end();
        CHECKS.due("11: OVER", 1, x.tell(2));
    }

    /** "1; 4; 1 of one that is not in the GAME is asked behind 4" */
    private static void handsOfThePlayersThereAre() {
        Boundary none = at("12, no GAME", x -> { });
        none.refused("hand(-1)", 1, x -> x.hand(-1));
        none.refused("hand(0)", 4, x -> x.hand(0));
        none.refused("hand(3)", 4, x -> x.hand(3));
        none.refused("hand(4)", 1, x -> x.hand(4));
        for (int players = 2; players <= 4; players++) {
            int last = players - 1;
            Boundary game = at("12, " + players + " PLAYERS", dealt(players, 13, 1));
            game.taken("hand(0)", setOf(OF_SEED_1, 0, 13), x -> x.hand(0));
            game.taken("hand(" + last + ")", setOf(OF_SEED_1, 13 * last, 13), x -> x.hand(last));
            game.refused("hand(" + (last + 1) + ")", 1, x -> x.hand(last + 1));
            for (int player : FAR) {
                game.refused("hand(" + player + ")", 1, x -> x.hand(player));
            }
        }
        at("12, OVER", Boundary::won).taken("hand(0)", 0, x -> x.hand(0));
    }

    /** "All that lies on the TABLE (4)." */
    private static void tableOfAGame() {
        at("13", x -> x.layout(7)).refused("table without a GAME", 4, x -> x.table());
        at("13", dealt(2, 3, 987)).taken("table of a new GAME", 0, x -> x.table());
        at("13", Boundary::won).taken("table of a GAME that is OVER", set("10a 10b 10c"), x -> x.table());
        at("13", x -> {
            x.deal(2, 3, 987);
            x.lay(x.hand(0));
            x.deal(2, 3, 987);
        }).taken("table of the next GAME", 0, x -> x.table());
    }

    /** "What 0 ... 6 (4; 1 ahead of it)" */
    private static void whatIsTold() {
        Boundary none = at("14, no GAME", x -> { });
        none.refused("tell(-1)", 1, x -> x.tell(-1));
        none.refused("tell(0)", 4, x -> x.tell(0));
        none.refused("tell(6)", 4, x -> x.tell(6));
        none.refused("tell(7)", 1, x -> x.tell(7));
        Boundary game = at("14", ended(3, 4, 7, 1));
        CHECKS.told("14", game.made(), 1, 41, 0, -1, 1, 0, 3);
        game.taken("tell(0)", 1, x -> x.tell(0));
        game.taken("tell(3): NONE has WON, STATUS 0", -1, x -> x.tell(3));
        game.taken("tell(6)", 3, x -> x.tell(6));
        game.refused("tell(7)", 1, x -> x.tell(7));
        for (int what : FAR) {
            game.refused("tell(" + what + ")", 1, x -> x.tell(what));
            none.refused("tell(" + what + ")", 1, x -> x.tell(what));
        }
    }

    /** "1: what; 4; 1: the PLAYER; asked in this order" */
    private static void whatIsToldOfAPlayer() {
        Boundary none = at("15, no GAME", x -> { });
        none.refused("player(0, -1)", 1, x -> x.player(0, -1));
        none.refused("player(0, 3)", 1, x -> x.player(0, 3));
        none.refused("player(-1, 3)", 1, x -> x.player(-1, 3));
        none.refused("player(0, 0)", 4, x -> x.player(0, 0));
        none.refused("player(3, 2)", 4, x -> x.player(3, 2));
        none.refused("player(4, 0)", 4, x -> x.player(4, 0));
        none.refused("player(-1, 2)", 4, x -> x.player(-1, 2));
        for (int players = 2; players <= 4; players++) {
            int last = players - 1;
            Boundary game = at("15, " + players + " PLAYERS", dealt(players, 3, 7));
            game.taken("player(0, 0)", 0, x -> x.player(0, 0));
            game.taken("player(0, 1)", 3, x -> x.player(0, 1));
            game.taken("player(0, 2)", 6 + 9 + 2, x -> x.player(0, 2));
            game.taken("player(" + last + ", 1)", 3, x -> x.player(last, 1));
            for (int what = 0; what <= 2; what++) {
                int asked = what;
                game.refused("the next PLAYER, " + what, 1, x -> x.player(last + 1, asked));
                game.refused("PLAYER -1, " + what, 1, x -> x.player(-1, asked));
            }
            game.refused("player(0, 3)", 1, x -> x.player(0, 3));
            game.refused("player(0, -1)", 1, x -> x.player(0, -1));
            for (int far : FAR) {
                game.refused("player(0, " + far + ")", 1, x -> x.player(0, far));
                game.refused("player(" + far + ", 0)", 1, x -> x.player(far, 0));
                none.refused("player(" + far + ", 0)", 4, x -> x.player(far, 0));
            }
        }
        // A HAND without CARDS, and one with a JOKER of 20.
        Boundary won = at("15, won", Boundary::won);
        won.taken("player(0, 0)", 1, x -> x.player(0, 0));
        won.taken("player(0, 1)", 0, x -> x.player(0, 1));
        won.taken("player(0, 2)", 0, x -> x.player(0, 2));
        won.taken("player(1, 0)", 0, x -> x.player(1, 0));
        at("15, 9b J K", dealt(2, 3, 5888)).taken("player(0, 2)", 49, x -> x.player(0, 2));
    }

    /** "the first CARD of the STOCK comes to the HAND, if there is one" */
    private static void stockRunsOut() {
        RummyTable x = new RummyTable();
        x.deal(4, 13, 7);
        CHECKS.told("17: a STOCK of 2", x, 0, 2);
        CHECKS.due("17: the last but one", 20, x.end());
        CHECKS.due("17: it came to PLAYER 0", 1, x.hand(0) >>> 20 & 1);
        CHECKS.told("17: a STOCK of 1", x, 1, 1);
        CHECKS.due("17: the last", 19, x.end());
        CHECKS.due("17: it came to PLAYER 1", 1, x.hand(1) >>> 19 & 1);
        CHECKS.told("17: no STOCK", x, 2, 0, 0);
        long before = x.hand(2);
        CHECKS.due("17: none", 54, x.end());
        CHECKS.due("17: status of none", 0, x.status());
        CHECKS.due("17: none came", before, x.hand(2));
        CHECKS.told("17: no STOCK", x, 3, 0, 0, -1, 3);
        // A STOCK of 52, for two with a CARD each.
        x.deal(2, 1, 7);
        for (int i = 2; i < 54; i++) {
            CHECKS.due("17: CARD " + i, OF_SEED_7[i], x.end());
        }
        CHECKS.told("17: all are in the HANDS", x, 0, 0, 0, -1, 52);
        CHECKS.due("17: CARDS", 27, x.player(0, 1));
        CHECKS.due("17: CARDS", 27, x.player(1, 1));
        CHECKS.due("17: none", 54, x.end());
    }

    /** "then the next PLAYER plays": behind the last one PLAYER 0. */
    private static void nextBehindTheLast() {
        for (int players = 2; players <= 4; players++) {
            RummyTable x = new RummyTable();
            x.deal(players, 2, 7);
            for (int turn = 0; turn < 3 * players; turn++) {
                CHECKS.due("17: who plays of " + players, turn % players, x.tell(0));
                CHECKS.due("17: TURNS ended", turn, x.tell(4));
                x.end();
            }
            CHECKS.due("17: who plays", 0, x.tell(0));
        }
    }

    /** "as it ENDS without one, the first CARD of the STOCK comes to the HAND" */
    private static void endsWithoutALaying() {
        RummyTable x = at("17", dealt(2, 3, 987)).taken("end", 11, y -> y.end());
        CHECKS.due("17: the HAND has it", set("10a 10b 10c") | 1L << 11, x.hand(0));
        CHECKS.due("17: the other has not", 3, x.player(1, 1));
        CHECKS.told("17", x, 1, 47, 0, -1, 1, 0, 2);
    }

    /** A TURN with a LAYING ENDS without a CARD, be there a STOCK or not. */
    private static void endsWithALaying() {
        Boundary laid = at("17", x -> {
            x.deal(2, 4, 4687);
            x.lay(set("10d 12d J"));
        });
        RummyTable x = laid.taken("end", 54, y -> y.end());
        CHECKS.due("17: the HAND", set("7a"), x.hand(0));
        CHECKS.told("17", x, 1, 46, 0, -1, 1, 0, 2);
        // The CARD that did not come then comes to the next one.
        CHECKS.due("17: the next CARD", 31, x.end());
        CHECKS.told("17", x, 0, 45, 0, -1, 2, 0, 2);
    }

    /** A LAYING that was refused is none: the TURN ENDS with a CARD. */
    private static void refusedLayingIsNone() {
        RummyTable x = new RummyTable();
        x.deal(2, 4, 4687);
        CHECKS.due("17: refused", -1, x.lay(set("7a")));
        CHECKS.due("17: LAYINGS", 0, x.tell(5));
        CHECKS.due("17: a CARD", 31, x.end());
    }

    /** "It is OVER, as soon as a HAND is empty (its PLAYER has WON)" */
    private static void overByAnEmptyHand() {
        RummyTable x = at("16", dealt(2, 3, 987)).taken("the first PLAYER", 3, y -> y.lay(set("10a 10b 10c")));
        CHECKS.told("16: won by 0", x, 0, 48, 1, 0, 0, 1, 2);
        x = at("16", ended(4, 3, 91, 3)).taken("the last PLAYER", 3, y -> y.lay(set("13a 13b 13c")));
        CHECKS.told("16: won by 3", x, 3, 39, 1, 3, 3, 1, 4);
        x = at("16", ended(3, 3, 346, 2)).taken("the last PLAYER", 3, y -> y.lay(set("11b 11c 11d")));
        CHECKS.told("16: won by 2", x, 2, 43, 1, 2, 2, 1, 3);
        // A CARD left is not none.
        x = at("16", dealt(2, 4, 4687)).taken("a CARD is left", 3, y -> y.lay(set("10d 12d J")));
        CHECKS.told("16: not OVER", x, 0, 46, 0, -1, 0, 1, 2);
    }

    /** "as many TURNS in a row as there are PLAYERS have ended without a LAYING and without a CARD" */
    private static void overByTurnsInARow() {
        for (int players = 2; players <= 4; players++) {
            int stock = 54 - 13 * players;
            RummyTable x = at("17", ended(players, 13, 7, stock + players - 1)).made();
            int turns = stock + players - 1;
            CHECKS.told("17: one less than " + players, x, turns % players, 0, 0, -1, turns, 0);
            CHECKS.due("17: the last one", 54, x.end());
            CHECKS.due("17: its status", 0, x.status());
            CHECKS.told("17: as many as " + players, x, stock % players, 0, 1, -1, stock + players, 0, players);
        }
    }

    /** A TURN with a LAYING breaks the row, a refused one does not. */
    private static void layingBreaksTheRow() {
        Boundary row = at("17", x -> {
            ended(4, 13, 14, 5).accept(x);
            x.lay(set("10a 10c 10d"));
            x.end();
        });
        RummyTable x = row.made();
        CHECKS.told("17: broken", x, 2, 0, 0, -1, 6);
        for (int i = 0; i < 3; i++) {
            x.end();
            CHECKS.due("17: " + (i + 1) + " of 4", 0, x.tell(2));
        }
        x.end();
        CHECKS.told("17: 4 of 4", x, 2, 0, 1, -1, 10);
        x = at("17", ended(4, 13, 14, 5)).made();
        CHECKS.due("17: refused", -1, x.lay(set("10a 10c")));
        x.end();
        CHECKS.told("17: not broken", x, 2, 0, 1, -1, 6);
    }

    /** TURNS with a CARD from the STOCK are not of the row: it begins behind the last CARD. */
    private static void cardBreaksTheRow() {
        RummyTable x = new RummyTable();
        x.deal(2, 13, 7);
        for (int i = 0; i < 28; i++) {
            CHECKS.due("17: a CARD", true, x.end() < 54);
            CHECKS.due("17: not OVER", 0, x.tell(2));
        }
        CHECKS.due("17: none", 54, x.end());
        CHECKS.due("17: 1 of 2", 0, x.tell(2));
        CHECKS.due("17: none", 54, x.end());
        CHECKS.due("17: 2 of 2", 1, x.tell(2));
    }

    /** "The TURN ENDS (4; 5)" */
    private static void endWithoutAGame() {
        at("17", x -> { }).refused("end without a GAME", 4, x -> x.end());
        at("17", x -> x.layout(7)).refused("end without a GAME", 4, x -> x.end());
        at("17", x -> x.deal(5, 3, 7)).refused("end without a GAME", 4, x -> x.end());
    }

    private static void endWhenOver() {
        at("17, won", Boundary::won).refused("end", 5, x -> x.end());
        at("17, ended", ended(4, 13, 7, 6)).refused("end", 5, x -> x.end());
        at("17, the last TURN", ended(4, 13, 7, 5)).taken("end", 54, x -> x.end());
    }
}
