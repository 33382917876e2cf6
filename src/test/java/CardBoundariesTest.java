/** "Terms", the part on CARDS, at its boundaries: the CARDS there are, what is a SET, and WORTH. */
public final class CardBoundariesTest {
    private static final Checks CHECKS = new Checks();
    private static final long ALL = (1L << 54) - 1;
    private static final int[] NO_CARDS = {Integer.MIN_VALUE, -52, -2, -1, 52, 53, 54, 64, 256, Integer.MAX_VALUE};

    public static void main(String[] args) {
        cardsThatHaveAPlace();
        cardsThatHaveNone();
        highestBitOfASet();
        firstBitAboveASet();
        everyBitAboveASet();
        worthOfEachCard();
        worthOfSets();
        numberChangesBehindFour();
        CHECKS.finish();
    }

    private static long set(String cards) {
        return Checks.set(cards);
    }

    private static Boundary at(String where) {
        return new Boundary(CHECKS, where, x -> { });
    }

    /** "CARDS are numbered 0 to 53 ... those below 52 have a NUMBER": the first and the last of these. */
    private static void cardsThatHaveAPlace() {
        RummyTable x = new RummyTable();
        x.layout(set("1a 1b 1c 11d 12d 13d"));
        CHECKS.due("6: place(0)", 1, x.place(0));
        CHECKS.due("6: place(43)", 2, x.place(43));
        CHECKS.due("6: place(51)", 3, x.place(51));
        x.layout(set("1b 1c 1d 11c 12c 13c"));
        CHECKS.due("6: place(0) not SHOWN", 0, x.place(0));
        CHECKS.due("6: place(51) not SHOWN", 0, x.place(51));
        x.layout(set("2a 3a J 11d 12d K"));
        CHECKS.due("7: stands(0), a JOKER is later", 0, x.stands(0));
        CHECKS.due("7: stands(51)", 1, x.stands(51));
        x.layout(set("1b 1c 1d J"));
        CHECKS.due("7: stands(0)", 1, x.stands(0));
        CHECKS.due("7: stands(51)", 0, x.stands(51));
    }

    /** "NONE if it is none below 52": a JOKER too, and without a STATUS of its own. */
    private static void cardsThatHaveNone() {
        RummyTable x = new RummyTable();
        x.layout(set("2a 3a J 11d 12d K"));
        x.ways(1L << 54);
        for (int card : NO_CARDS) {
            CHECKS.due("6: place(" + card + ")", -1, x.place(card));
            CHECKS.due("7: stands(" + card + ")", -1, x.stands(card));
        }
        CHECKS.due("6, 7: they have no STATUS", 1, x.status());
        CHECKS.due("6, 7: the LAYOUT stays", 6, x.shows(2));
    }

    /** "bit k for CARD k": bit 53 is the last that a SET may have. */
    private static void highestBitOfASet() {
        long last = set("12a 13a K");
        at("bit 53").taken("ways", 1, x -> x.ways(last));
        at("bit 53").taken("layout", 1, x -> x.layout(last));
        at("bit 53").taken("best, must", 0, x -> x.best(last, 0, 0));
        at("bit 53").taken("best, may", last, x -> x.best(0, last, 1));
        at("bit 53").taken("worth", 40, x -> x.worth(last));
        at("all bits").taken("ways", 0, x -> x.ways(ALL));
        at("all bits").taken("worth", 380, x -> x.worth(ALL));
        at("all bits").refused("layout", 3, x -> x.layout(ALL));
        at("all bits").refused("best, must", 3, x -> x.best(ALL, 0, 0));
        // All else is SHOWN, so JOKERS stand for the CARDS of least WORTH, and these stay in the hand.
        at("all bits").taken("best, most WORTH", ALL & ~set("1c 1d"), x -> x.best(0, ALL, 1));
        at("all bits").taken("best, most CARDS", ALL & ~set("J K"), x -> x.best(0, ALL, 0));
        new Boundary(CHECKS, "all bits", x -> x.deal(2, 3, 7)).refused("lay", 6, x -> x.lay(ALL));
    }

    /** "bits above 53 are 0, else it is none": the first above, alone and with a SET that could be laid. */
    private static void firstBitAboveASet() {
        refusedAsSet(1L << 54);
        refusedAsSet(1L << 54 | set("1a 1b 1c"));
        refusedAsSet(ALL + 1 | ALL);
    }

    private static void everyBitAboveASet() {
        for (int bit = 55; bit < 64; bit++) {
            refusedAsSet(1L << bit | set("1a 1b 1c"));
        }
        refusedAsSet(-1);
        refusedAsSet(Long.MIN_VALUE);
        refusedAsSet(Long.MAX_VALUE);
    }

    private static void refusedAsSet(long none) {
        Boundary kept = new Boundary(CHECKS, "no SET " + none, x -> x.layout(set("4a 5a 6a J")));
        kept.refused("ways", 1, x -> x.ways(none));
        kept.refused("layout", 1, x -> x.layout(none));
        kept.refused("best, must", 1, x -> x.best(none, 0, 0));
        kept.refused("best, may", 1, x -> x.best(0, none, 0));
        kept.refused("best, both", 1, x -> x.best(none, none, 1));
        kept.refused("worth", 1, x -> x.worth(none));
        kept.refused("lay without a GAME", 1, x -> x.lay(none));
        Boundary game = new Boundary(CHECKS, "no SET " + none + " in a GAME", x -> x.deal(2, 3, 987));
        game.refused("lay", 1, x -> x.lay(none));
        game.refused("lay with the HAND", 1, x -> x.lay(none | x.hand(0)));
    }

    /** "WORTH of a CARD is its NUMBER, 10 at most; of a JOKER 20." */
    private static void worthOfEachCard() {
        int[] byNumber = {1, 2, 3, 4, 5, 6, 7, 8, 9, 10, 10, 10, 10};
        RummyTable x = new RummyTable();
        for (int card = 0; card < 52; card++) {
            CHECKS.due("9: worth of " + card, byNumber[card / 4], x.worth(1L << card));
        }
        at("9").taken("last below 10", 9, y -> y.worth(1L << 35));
        at("9").taken("first of 10", 10, y -> y.worth(1L << 36));
        at("9").taken("first that would be 11", 10, y -> y.worth(1L << 40));
        at("9").taken("the last with a NUMBER", 10, y -> y.worth(1L << 51));
        at("9").taken("the first JOKER", 20, y -> y.worth(1L << 52));
        at("9").taken("the last JOKER", 20, y -> y.worth(1L << 53));
    }

    private static void worthOfSets() {
        at("9").taken("empty", 0, x -> x.worth(0));
        at("9").taken("both JOKERS", 40, x -> x.worth(set("J K")));
        at("9").taken("13 CARDS of a COLOUR", 85, x -> x.worth(set("1a 2a 3a 4a 5a 6a 7a 8a 9a 10a 11a 12a 13a")));
        at("9").taken("not LAYABLE, yet of WORTH", 3, x -> x.worth(set("1a 2b")));
        RummyTable x = new RummyTable();
        x.layout(set("9a 9b 9c"));
        x.worth(set("1a 2a 3a"));
        CHECKS.due("9: worth keeps no LAYOUT", 27, x.shows(4));
    }

    /** "card by 4, rounded down, and 1 ... the rest by 4": 3 is the last of NUMBER 1, 4 the first of 2. */
    private static void numberChangesBehindFour() {
        at("NUMBER").taken("1, 2, 3 are of one", 1, x -> x.ways(0b1110L));
        at("NUMBER").taken("2, 3, 4 are not", 0, x -> x.ways(0b11100L));
        at("NUMBER").taken("48 to 51 are of the last", 1, x -> x.ways(15L << 48));
        at("NUMBER").taken("47 is not of it", 0, x -> x.ways(7L << 47));
        at("NUMBER").taken("51 and the JOKERS are no GROUP of 13s by themselves", 4, x -> x.ways(7L << 51));
        at("COLOUR").taken("3, 7, 11 are of one", 1, x -> x.ways(1L << 3 | 1L << 7 | 1L << 11));
        at("COLOUR").taken("3, 7, 10 are not", 0, x -> x.ways(1L << 3 | 1L << 7 | 1L << 10));
        at("COLOUR").taken("3, 4, 8 are not", 0, x -> x.ways(1L << 3 | 1L << 4 | 1L << 8));
    }
}
