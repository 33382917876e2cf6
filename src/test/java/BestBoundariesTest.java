/** "Terms", ==== 2, and promise 5 at their boundaries: BESIDE, the empty part, AIMS, of several the first. */
public final class BestBoundariesTest {
    private static final Checks CHECKS = new Checks();
    private static final int[] NO_AIMS = {Integer.MIN_VALUE, -2, -1, 2, 3, Integer.MAX_VALUE};
    private static final String RUN_OF_13 = "1b 2b 3b 4b 5b 6b 7b 8b 9b 10b 11b 12b 13b";
    private static RummyTable x;

    public static void main(String[] args) {
        sharedCards();
        emptyPart();
        noPartAtAll();
        mustNeedsMay();
        aims();
        aimsThatCantBe();
        mostCards();
        mostWorth();
        theFirstOfSeveral();
        theFirstJoker();
        jokersThatMustBeLaid();
        layoutOfAll();
        CHECKS.finish();
    }

    private static long set(String cards) {
        return Checks.set(cards);
    }

    private static Boundary kept(String where) {
        return new Boundary(CHECKS, where, y -> y.layout(set("2b 4b 9a 9b 9c J")));
    }

    private static void best(String must, String may, int aim, String part) {
        String call = "best(" + must + " | " + may + " | " + aim + ")";
        x = kept("5").taken(call, set(part), y -> y.best(set(must), set(may), aim));
        CHECKS.due(call + ": SHOWN is all of both", Long.bitCount(set(must) | set(part)), x.shows(2));
    }

    private static void refused(String must, String may, int aim, int status) {
        String call = "best(" + must + " | " + may + " | " + aim + ")";
        kept("5").refused(call, status, y -> y.best(set(must), set(may), aim));
    }

    /** "of a SET that may (without a CARD of the first)": one CARD of it is too much. */
    private static void sharedCards() {
        best("1a 1b 1c", "1d", 0, "1d");
        refused("1a 1b 1c", "1c 1d", 0, 2);
        refused("1a 1b 1c", "1a", 1, 2);
        refused("1a 1b 1c", "1a 1b 1c", 0, 2);
        refused("13b 13c 13d", "13d", 0, 2);
        best("1a 1b J", "K", 0, "K");
        refused("1a 1b J", "J", 0, 2);
        refused("1a 1b K", "J K", 1, 2);
        // 2 is ahead of 3.
        refused("1a", "1a", 0, 2);
        long all = (1L << 54) - 1;
        kept("5").refused("all and all", 2, y -> y.best(all, all, 0));
        kept("5").refused("all and one", 2, y -> y.best(all, 1L << 53, 1));
    }

    /** "0: the empty SET": with nothing that may, with nothing that fits, beside nothing and beside MELDS. */
    private static void emptyPart() {
        best("", "", 0, "");
        CHECKS.due("5: the empty LAYOUT", 0, x.shows(2));
        best("", "", 1, "");
        best("", "1a", 0, "");
        best("", "1a 2a", 0, "");
        best("", "1a 2a 3a", 0, "1a 2a 3a");
        best("", "J", 1, "");
        best("", "J K", 1, "");
        best("", "8d J K", 1, "8d J K");
        best("1a 1b 1c", "", 0, "");
        CHECKS.due("5: the LAYOUT of what must", 1, x.place(0));
        best("1a 1b 1c", "2a 3a", 0, "");
        best("1a 1b 1c 1d", "2a 3a", 0, "2a 3a");
        // One JOKER finds no room; two make a RUN of 1a.
        best("1a 1b 1c 1d", "J", 0, "");
        best("1a 1b 1c 1d", "J K", 0, "J K");
        best("1a 1b 1c", "J K", 0, "J");
    }

    /** "3: with no part at all": not with the empty part either. */
    private static void noPartAtAll() {
        refused("1a", "", 0, 3);
        refused("1a 1b", "", 1, 3);
        refused("1a 1b", "2a 2b 2c", 0, 3);
        refused("J", "", 0, 3);
        refused("J", "1a", 1, 3);
        refused("J K", "", 0, 3);
        refused("1a 1b 1c 1d J", "9a", 0, 3);
    }

    /** A SET that can't be laid by itself may be laid with what stands beside it. */
    private static void mustNeedsMay() {
        best("1a 1b", "1d", 0, "1d");
        best("1a", "1b 1d", 1, "1b 1d");
        best("1a 3a", "2a", 0, "2a");
        best("1a 3a", "J", 0, "J");
        best("1a 4a", "J 3a 9d", 0, "3a J");
        best("J", "1a 1b", 0, "1a 1b");
        best("J K", "1a", 1, "1a");
        best("J K", "1a 9c", 1, "9c");
        best("J K", "1a 9c", 0, "1a");
        best("1a 1b 1c 1d J", "9a 9b", 0, "9a 9b");
    }

    /** "BEST for an AIM: 0 that with the most CARDS; 1 that with the most WORTH together" */
    private static void aims() {
        best("", "1a 1b 1c 1d 10a 11a 12a", 0, "1a 1b 1c 1d 10a 11a 12a");
        best("", "1a 2a 3a 3b 3c", 0, "1a 2a 3a");
        best("", "1a 2a 3a 3b 3c", 1, "3a 3b 3c");
        best("", "1a 2a 3a 4a 4b 4c", 1, "1a 2a 3a 4a 4b 4c");
    }

    private static void aimsThatCantBe() {
        for (int aim : NO_AIMS) {
            refused("", "", aim, 1);
            refused("1a 1b 1c", "1d", aim, 1);
            // 1 is ahead of 2 and of 3.
            refused("1a 1b 1c", "1c", aim, 1);
            refused("1a", "", aim, 1);
        }
    }

    private static void mostCards() {
        best("", "1a 1b 1c 1d 2a 3a", 0, "1a 1b 1c 1d 2a 3a");
        best("", "1a 2a 3a 4a 4b 4c 5c", 0, "1a 2a 3a 4a 4b 4c");
        // Five CARDS of little WORTH are more than three of much.
        best("", "1a 2a 4a 5a 13a 13b J", 0, "1a 2a 4a 5a J");
        best("", "1a 2a 4a 5a 13a 13b J", 1, "13a 13b J");
        best("", "1a 2a 5a 13a 13b J", 0, "1a 2a J");
    }

    private static void mostWorth() {
        // 1 to 4 are worth 10, three of 3 are 9, three of 4 are 12.
        best("", "1a 2a 3a 4a 3b 3c", 1, "1a 2a 3a 4a");
        best("", "1a 2a 3a 4a 4b 4c 5d", 1, "1a 2a 3a 4a 4b 4c");
        // Three of 11 are worth what three of 10 are; of 9 they are less.
        best("", "10a 10b 10c 11a 12a", 1, "10a 10b 10c");
        best("", "9a 9b 9c 10a 11a", 1, "9a 10a 11a");
        best("", "11a 11b 11c 12a 13a", 1, "11a 11b 11c");
        // A JOKER is worth 20, wherever it stands.
        best("", "1a 1b 1c J", 1, "1a 1b 1c J");
        best("", "10a 10b 10c 10d J", 1, "10a 10b 10c J");
        best("", "10a 10b 10c 10d J", 0, "10a 10b 10c 10d");
        best("", "10a 10b 10c 10d J K", 1, "10a 10b 10c 10d J K");
    }

    /** "of several the first: that with the CARD of the least number that is in one alone" */
    private static void theFirstOfSeveral() {
        for (int aim = 0; aim <= 1; aim++) {
            best("", "10a 10b 10c 11c 12c", aim, "10a 10b 10c");
            best("", "10a 11a 12a 12b 12c", aim, "10a 11a 12a");
        }
        best("", "1a 1b 1c 2c 3c", 0, "1a 1b 1c");
        best("", "3d 4d 5a 5b 5d", 0, "3d 4d 5d");
        // The least CARD in one alone is 1a, though the other has all of 2b to 13b that differ.
        best("", "1a 2a J 12b 13b", 0, "1a 2a J");
        best("", "1d 2d J 13a 13b", 0, "1d 2d J");
        // Both have 5a, the first CARD; the next one decides.
        best("", "5a 5b 5c 6a 7a", 0, "5a 5b 5c");
        best("", "5a 5c 5d 6a 7a 6b 6c", 0, "5a 5c 5d 6a 6b 6c");
    }

    private static void theFirstJoker() {
        best("", "5a 5b 5c J K", 0, "5a 5b 5c J");
        best("", "5a 5b 5c K", 0, "5a 5b 5c K");
        best("5a 5b 5c", "J K", 1, "J");
        best("5a 5b J", "K", 1, "K");
        best("5a 5b K", "J", 1, "J");
        // The one that may be laid finds no room beside the one that must.
        best("5a 5b 5c J", "K", 1, "");
        best("5a 5b 5c K", "J", 0, "");
        best("", "5a 5b J K", 0, "5a 5b J K");
        // As many CARDS with a JOKER as without: CARDS have lesser numbers than JOKERS.
        best("", "5a 5b 5c 5d J", 0, "5a 5b 5c 5d");
        best("", "5a 5b 5c 5d J", 1, "5a 5b 5c J");
        // 13 CARDS, with the JOKER beside 11a 11b or without it: 11a is ahead of 12b, 3a is not ahead of 1b.
        best("", "11a J " + RUN_OF_13, 0, "1b 2b 3b 4b 5b 6b 7b 8b 9b 10b 11a 11b J");
        best("", "3a J " + RUN_OF_13, 0, RUN_OF_13);
    }

    private static void jokersThatMustBeLaid() {
        best("J", "13a 13b 13c 13d", 0, "13a 13b 13c");
        best("J", "12a 12b 12c 12d 9a", 0, "12a 12b 12c");
        best("J", "12a 12b 12c 12d 13a", 0, "12a 12b 12c 12d 13a");
        best("J K", "13a 13b 13c 13d", 1, "13a 13b 13c 13d");
        best("J K", "13a 13b 13c", 1, "13a 13b");
        best("J", "1a 2a 3a 11a 12a 13a", 0, "1a 2a 3a 11a 12a 13a");
        refused("1a 2a 3a J K", "", 2, 1);
        best("1a 2a 3a J K", "", 0, "");
        best("1a 1b 1c 1d J", "2c 3c", 0, "2c 3c");
    }

    /** "all of both has its LAYOUT, which is kept" */
    private static void layoutOfAll() {
        best("3a 3b 3c 3d", "4a 5a", 0, "4a 5a");
        CHECKS.due("5: 3a leaves the GROUP", 2, x.place(Checks.card("3a")));
        CHECKS.due("5: GROUPS", 1, x.shows(0));
        CHECKS.due("5: RUNS", 1, x.shows(1));
        best("3a 3b J", "3c", 1, "3c");
        CHECKS.due("5: the JOKER makes room", 1, x.stands(Checks.card("3d")));
        CHECKS.due("5: JOKERS", 1, x.shows(3));
    }
}
