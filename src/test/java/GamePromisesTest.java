/** Promises 10 to 18, each by answers that were found by hand from the document and from seeds sought out. */
public final class GamePromisesTest {
    private static final Checks CHECKS = new Checks();
    private static RummyTable x;

    public static void main(String[] args) {
        opening();
        deal();
        dealRefused();
        handAndTable();
        tell();
        player();
        layAndWin();
        layRefused();
        layBesideOthers();
        end();
        endsWithoutWinner();
        layingBreaksIdleTurns();
        robot();
        robotRefused();
        CHECKS.finish();
    }

    private static long set(String cards) {
        return Checks.set(cards);
    }

    private static void refused(String call, int status, long answer) {
        CHECKS.due(call, -1, answer);
        CHECKS.due("status of " + call, status, x.status());
    }

    private static void dealt(int players, int many, int seed, int opening) {
        x = new RummyTable();
        CHECKS.due("opening", true, x.opening(opening));
        CHECKS.due("deal", true, x.deal(players, many, seed));
        CHECKS.due("status of deal", 0, x.status());
    }

    private static void opening() {
        dealt(2, 3, 377, 21);
        CHECKS.due("10: 201", false, x.opening(201));
        CHECKS.due("10: status", 1, x.status());
        CHECKS.due("10: -1", false, x.opening(-1));
        CHECKS.due("10: status", 1, x.status());
        CHECKS.due("10: 200", true, x.opening(200));
        CHECKS.due("10: status", 0, x.status());
        refused("10: lay below 200", 7, x.lay(set("7b 7c 7d")));
        x.opening(22);
        refused("10: lay 21 with 22", 7, x.lay(set("7b 7c 7d")));
        x.opening(21);
        x.opening(999);
        CHECKS.due("10: lay 21 with 21", 3, x.lay(set("7b 7c 7d")));
        // OPENING outlasts a new GAME.
        x.deal(2, 3, 377);
        CHECKS.due("10: lay again", 3, x.lay(set("7b 7c 7d")));
        dealt(2, 3, 377, 0);
        CHECKS.due("10: lay with 0", 3, x.lay(set("7b 7c 7d")));
    }

    private static void deal() {
        // Each HAND and the STOCK by the rule, written out once more.
        int[] pack = new int[54];
        for (int i = 0; i < 54; i++) {
            pack[i] = i;
        }
        long s = 2147483646;
        for (int i = 53; i > 0; i--) {
            s = s * 48271 % 2147483647;
            int j = (int) (s % (i + 1));
            int card = pack[i];
            pack[i] = pack[j];
            pack[j] = card;
        }
        dealt(3, 5, 2147483646, 30);
        for (int p = 0; p < 3; p++) {
            long hand = 0;
            for (int i = 0; i < 5; i++) {
                hand |= 1L << pack[5 * p + i];
            }
            CHECKS.due("11: hand " + p, hand, x.hand(p));
        }
        for (int i = 15; i < 54; i++) {
            CHECKS.due("11: stock " + i, pack[i], x.end());
        }
        CHECKS.due("11: stock is empty", 54, x.end());
        // A new GAME is new in all.
        dealt(2, 3, 987, 30);
        x.end();
        x.end();
        x.opening(0);
        x.lay(set("10a 10b 10c"));
        x.lay(x.hand(0));
        CHECKS.due("11: turns", 2, x.tell(4));
        x.deal(2, 3, 987);
        x.lay(x.hand(0));
        CHECKS.due("11: over", 1, x.tell(2));
        CHECKS.due("11: won", 0, x.tell(3));
        CHECKS.due("11: turns", 0, x.tell(4));
        x.deal(4, 13, 1);
        int[] want = {0, 2, 0, -1, 0, 0, 4};
        for (int what = 0; what < 7; what++) {
            CHECKS.due("11: tell(" + what + ")", want[what], x.tell(what));
        }
        CHECKS.due("11: table", 0, x.table());
        CHECKS.due("11: has not opened", 0, x.player(0, 0));
        CHECKS.due("11: the LAYOUT stays kept", 3, x.shows(2));
    }

    private static void dealRefused() {
        dealt(2, 3, 987, 30);
        int[][] wrong = {{1, 3, 7}, {5, 3, 7}, {-2, 3, 7}, {2, 0, 7}, {2, 14, 7}, {2, -1, 7}, {2, 3, 0}, {2, 3, -7},
            {2, 3, Integer.MAX_VALUE}, {2, 3, Integer.MIN_VALUE}};
        for (int[] w : wrong) {
            CHECKS.due("11: deal " + w[0] + " " + w[1] + " " + w[2], false, x.deal(w[0], w[1], w[2]));
            CHECKS.due("11: status", 1, x.status());
        }
        CHECKS.due("11: the GAME is as it was", set("10a 10b 10c"), x.hand(0));
        CHECKS.due("11: least", true, x.deal(2, 1, 1));
        CHECKS.due("11: most", true, x.deal(4, 13, 2147483646));
    }

    private static void handAndTable() {
        x = new RummyTable();
        refused("12: hand(4)", 1, x.hand(4));
        refused("12: hand(-1)", 1, x.hand(-1));
        refused("12: hand(3)", 4, x.hand(3));
        refused("13: table()", 4, x.table());
        x.deal(3, 13, 99);
        refused("12: hand(3) of 3", 1, x.hand(3));
        refused("12: hand(4)", 1, x.hand(4));
        CHECKS.due("12: three hands share nothing", 39,
                Long.bitCount(x.hand(0) | x.hand(1) | x.hand(2)));
        CHECKS.due("12: status", 0, x.status());
        dealt(2, 4, 4687, 30);
        CHECKS.due("12: hand(0)", set("7a 10d 12d J"), x.hand(0));
        CHECKS.due("12: hand(1)", set("3a 3c 3d 11d"), x.hand(1));
        CHECKS.due("13: table()", 0, x.table());
        CHECKS.due("13: status", 0, x.status());
        x.lay(set("10d 12d J"));
        CHECKS.due("13: table()", set("10d 12d J"), x.table());
        CHECKS.due("12: hand(0)", set("7a"), x.hand(0));
    }

    private static void tell() {
        x = new RummyTable();
        refused("14: tell(7)", 1, x.tell(7));
        refused("14: tell(-1)", 1, x.tell(-1));
        refused("14: tell(0)", 4, x.tell(0));
        refused("14: tell(6)", 4, x.tell(6));
        dealt(3, 7, 5, 30);
        int[] want = {0, 33, 0, -1, 0, 0, 3};
        for (int what = 0; what < 7; what++) {
            CHECKS.due("14: tell(" + what + ")", want[what], x.tell(what));
            CHECKS.due("14: status", 0, x.status());
        }
        x.end();
        CHECKS.due("14: who plays", 1, x.tell(0));
        x.end();
        CHECKS.due("14: who plays", 2, x.tell(0));
        x.end();
        CHECKS.due("14: who plays", 0, x.tell(0));
        CHECKS.due("14: stock", 30, x.tell(1));
        CHECKS.due("14: turns", 3, x.tell(4));
    }

    private static void player() {
        x = new RummyTable();
        refused("15: player(9, 3)", 1, x.player(9, 3));
        refused("15: player(0, -1)", 1, x.player(0, -1));
        refused("15: player(9, 0)", 4, x.player(9, 0));
        dealt(2, 4, 4687, 30);
        refused("15: player(2, 0)", 1, x.player(2, 0));
        refused("15: player(-1, 0)", 1, x.player(-1, 0));
        refused("15: player(0, 3)", 1, x.player(0, 3));
        CHECKS.due("15: opened", 0, x.player(0, 0));
        CHECKS.due("15: cards", 4, x.player(0, 1));
        CHECKS.due("15: worth", 7 + 10 + 10 + 20, x.player(0, 2));
        CHECKS.due("15: status", 0, x.status());
        x.lay(set("10d 12d J"));
        CHECKS.due("15: opened", 1, x.player(0, 0));
        CHECKS.due("15: cards", 1, x.player(0, 1));
        CHECKS.due("15: worth", 7, x.player(0, 2));
        CHECKS.due("15: the other has not", 0, x.player(1, 0));
    }

    private static void layAndWin() {
        dealt(2, 3, 987, 30);
        CHECKS.due("16: lay", 3, x.lay(set("10a 10b 10c")));
        CHECKS.due("16: status", 0, x.status());
        int[] want = {0, 48, 1, 0, 0, 1, 2};
        for (int what = 0; what < 7; what++) {
            CHECKS.due("16: tell(" + what + ")", want[what], x.tell(what));
        }
        CHECKS.due("16: hand", 0, x.hand(0));
        CHECKS.due("16: the LAYOUT is kept", 1, x.place(Checks.card("10a")));
        refused("16: lay when over", 5, x.lay(set("10a")));
        refused("16: lay nothing when over", 1, x.lay(0));
        refused("17: end when over", 5, x.end());
        refused("18: robot when over", 5, x.robot(0));
        refused("18: robot(2) when over", 1, x.robot(2));
        // With a JOKER: 11 and 12 and what it stands for, by their numbers.
        dealt(2, 3, 1459, 30);
        CHECKS.due("16: with a joker, 30", 3, x.lay(set("11d 12d J")));
        dealt(2, 3, 240, 25);
        refused("16: 7 8 9 is 24, whatever the joker", 7, x.lay(set("7b 9b K")));
        x.opening(24);
        CHECKS.due("16: 24", 3, x.lay(set("7b 9b K")));
        CHECKS.due("16: worth shown", 24, x.shows(4));
    }

    private static void layRefused() {
        x = new RummyTable();
        x.layout(set("1a 1b 1c 1d"));
        refused("16: lay(-1)", 1, x.lay(-1));
        refused("16: lay(2^54)", 1, x.lay(1L << 54));
        refused("16: lay(0)", 1, x.lay(0));
        refused("16: lay(7) without a game", 4, x.lay(7));
        x.deal(2, 4, 4687);
        refused("16: lay(0)", 1, x.lay(0));
        refused("16: another's cards", 6, x.lay(set("3a 3c 3d")));
        refused("16: one card not held", 6, x.lay(set("10d 11d 12d J")));
        refused("16: not layable by itself", 7, x.lay(set("7a 10d 12d J")));
        refused("16: one card", 7, x.lay(set("7a")));
        CHECKS.due("16: nothing was changed", set("7a 10d 12d J"), x.hand(0));
        CHECKS.due("16: nothing was changed", 0, x.table());
        CHECKS.due("16: nothing was changed", 0, x.tell(5));
        CHECKS.due("16: nothing was changed", 0, x.player(0, 0));
        CHECKS.due("16: the LAYOUT was not changed", 4, x.shows(2));
        CHECKS.due("16: the LAYOUT was not changed", 4, x.shows(4));
        CHECKS.due("16: 30 with a joker for 11d", 3, x.lay(set("10d 12d J")));
        CHECKS.due("16: the joker stands for 11d", 1, x.stands(Checks.card("11d")));
        refused("16: opened, but no LAYOUT", 3, x.lay(set("7a")));
        CHECKS.due("16: nothing was changed", set("7a"), x.hand(0));
        CHECKS.due("16: layings", 1, x.tell(5));
        CHECKS.due("17: no card after a laying", 54, x.end());
        CHECKS.due("17: stock", 46, x.tell(1));
        refused("16: too little", 7, x.lay(set("3a 3c 3d")));
        refused("16: fits, but by itself it does not", 7, x.lay(set("11d")));
        x.opening(9);
        CHECKS.due("16: 9", 6, x.lay(set("3a 3c 3d")));
        CHECKS.due("16: layings", 1, x.tell(5));
        CHECKS.due("16: melds", 2, x.shows(0) + x.shows(1));
        CHECKS.due("16: and one more in the same TURN", 7, x.lay(set("11d")));
        CHECKS.due("16: layings", 2, x.tell(5));
        CHECKS.due("16: won", 1, x.tell(3));
        CHECKS.due("16: the joker stands for another", 0, x.stands(Checks.card("11d")));
        CHECKS.due("16: longest run", 4, x.shows(5));
    }

    /** What can be laid by itself, but not with what lies: 3a can't be for the run and for the group. */
    private static void layBesideOthers() {
        dealt(2, 13, 1712, 0);
        CHECKS.due("16: first", 6, x.lay(set("2d 3a 3b 3c 3d 4d")));
        CHECKS.due("17: end", 54, x.end());
        CHECKS.due("by itself", 2, x.layout(set("1a 2a 5a 5c 5d K")));
        refused("16: not with the TABLE", 3, x.lay(set("1a 2a 5a 5c 5d K")));
        CHECKS.due("16: has not opened", 0, x.player(1, 0));
        CHECKS.due("16: the table is as it was", 6, Long.bitCount(x.table()));
        CHECKS.due("16: the LAYOUT kept is still that of layout()", 6, x.shows(2));
        CHECKS.due("16: the LAYOUT kept is still that of layout()", 2, x.place(Checks.card("1a")));
        CHECKS.due("18: nor does the robot", 0, x.robot(0));
        CHECKS.due("18: it took a card", 14, x.player(1, 1));
        CHECKS.due("18: next", 0, x.tell(0));
    }

    private static void end() {
        x = new RummyTable();
        refused("17: end()", 4, x.end());
        dealt(2, 3, 7, 30);
        long before = x.hand(0);
        CHECKS.due("17: end()", 48, x.end());
        CHECKS.due("17: status", 0, x.status());
        CHECKS.due("17: the card came to the hand", before | 1L << 48, x.hand(0));
        CHECKS.due("17: turns", 1, x.tell(4));
        CHECKS.due("17: next", 1, x.tell(0));
        dealt(2, 4, 4687, 30);
        x.lay(set("10d 12d J"));
        CHECKS.due("17: none after a laying", 54, x.end());
        CHECKS.due("17: layings of the next TURN", 0, x.tell(5));
        CHECKS.due("17: stock", 46, x.tell(1));
    }

    private static void endsWithoutWinner() {
        dealt(4, 13, 12345, 30);
        CHECKS.due("17: stock of 2", true, x.end() < 54);
        CHECKS.due("17: stock of 1", true, x.end() < 54);
        for (int i = 0; i < 4; i++) {
            CHECKS.due("17: not over", 0, x.tell(2));
            CHECKS.due("17: no card", 54, x.end());
        }
        int[] want = {2, 0, 1, -1, 6, 0, 4};
        for (int what = 0; what < 7; what++) {
            CHECKS.due("17: tell(" + what + ")", want[what], x.tell(what));
        }
        refused("17: end when over", 5, x.end());
        CHECKS.due("17: turns", 6, x.tell(4));
        refused("16: lay when over", 5, x.lay(set("13d")));
        refused("18: robot when over", 5, x.robot(1));
    }

    private static void layingBreaksIdleTurns() {
        // Seed 14 gives PLAYER 1 three tens; the STOCK has two cards.
        dealt(4, 13, 14, 30);
        x.end();
        x.end();
        // Three TURNS without anything, a fourth with a LAYING: the row begins again.
        for (int i = 0; i < 3; i++) {
            CHECKS.due("17: no card", 54, x.end());
        }
        CHECKS.due("17: lay", 3, x.lay(set("10a 10c 10d")));
        CHECKS.due("17: end", 54, x.end());
        CHECKS.due("17: the row is broken", 0, x.tell(2));
        for (int i = 0; i < 3; i++) {
            x.end();
        }
        CHECKS.due("17: three are not four", 0, x.tell(2));
        x.end();
        CHECKS.due("17: four", 1, x.tell(2));
        CHECKS.due("17: nobody has won", -1, x.tell(3));
        CHECKS.due("17: turns", 10, x.tell(4));
    }

    private static void robot() {
        // 11d fits only behind the first laying: two LAYINGS in one TURN, and the last card is out.
        dealt(2, 4, 4687, 9);
        CHECKS.due("18: opens", 3, x.robot(0));
        CHECKS.due("18: status", 0, x.status());
        CHECKS.due("18: the TURN ended", 1, x.tell(0));
        CHECKS.due("18: no card came", 46, x.tell(1));
        CHECKS.due("18: the LAYOUT is kept", 1, x.stands(Checks.card("11d")));
        CHECKS.due("18: opens and lays on", 4, x.robot(0));
        CHECKS.due("18: won", 1, x.tell(3));
        CHECKS.due("18: who plays", 1, x.tell(0));
        CHECKS.due("18: the TURN did not end", 1, x.tell(4));
        CHECKS.due("18: layings", 2, x.tell(5));
        CHECKS.due("18: the LAYOUT is kept", 7, x.shows(2));
        // Too little to open: a card comes, and the LAYOUT that was kept stays.
        dealt(2, 4, 4687, 31);
        x.layout(set("1a 1b 1c 1d"));
        CHECKS.due("18: can't open", 0, x.robot(1));
        CHECKS.due("18: a card came", 5, x.player(0, 1));
        CHECKS.due("18: next", 1, x.tell(0));
        CHECKS.due("18: turns", 1, x.tell(4));
        CHECKS.due("18: the LAYOUT is the one before", 4, x.shows(2));
        robotAims();
    }

    /** Robots of both aims lay what best() finds for them, as long as the OPENING lets them. */
    private static void robotAims() {
        int different = 0;
        for (int seed = 1; seed <= 300; seed++) {
            dealt(2, 13, seed, 0);
            long hand = x.hand(0);
            long byCards = x.best(0, hand, 0);
            long byWorth = x.best(0, hand, 1);
            x.robot(seed % 2);
            if (byCards != byWorth) {
                different++;
                long first = seed % 2 == 0 ? byCards : byWorth;
                CHECKS.due("18: aim of seed " + seed, first, x.table() & first);
            }
        }
        CHECKS.due("18: the aims differ at times", true, different > 0);
    }

    private static void robotRefused() {
        x = new RummyTable();
        refused("18: robot(2)", 1, x.robot(2));
        refused("18: robot(-1)", 1, x.robot(-1));
        refused("18: robot(1)", 4, x.robot(1));
        x.deal(2, 3, 7);
        refused("18: robot(2)", 1, x.robot(2));
        CHECKS.due("18: nothing was changed", 0, x.tell(4));
    }
}
