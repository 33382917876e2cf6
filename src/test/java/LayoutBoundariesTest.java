/** "Terms", the part on LAYOUTS, at its boundaries: GROUPS, RUNS, JOKERS, the empty LAYOUT, the first. */
public final class LayoutBoundariesTest {
    private static final Checks CHECKS = new Checks();
    private static final String RUN_OF_13 = "1a 2a 3a 4a 5a 6a 7a 8a 9a 10a 11a 12a 13a";
    private static final long ALL_52 = (1L << 52) - 1;
    private static final long ALL_WAYS = 10507340L;
    private static RummyTable x;

    public static void main(String[] args) {
        newObject();
        groupOfThreeOrFour();
        runOfThreeOrMore();
        runsEndAtBothEnds();
        noCardTwice();
        emptyLayout();
        jokersStandForOthers();
        asManyOthersAsJokers();
        jokerAtTheEnds();
        notShownIsFirst();
        groupIsAheadOfRun();
        beginningIsAheadOfFurtherOn();
        firstCardDecides();
        allCards();
        showsEachWhat();
        longestRun();
        refusedKeepsTheLayout();
        CHECKS.finish();
    }

    private static long set(String cards) {
        return Checks.set(cards);
    }

    private static Boundary fresh(String where) {
        return new Boundary(CHECKS, where, y -> { });
    }

    private static Boundary kept(String where) {
        return new Boundary(CHECKS, where, y -> y.layout(set("2b 4b 9a 9b 9c J")));
    }

    /** A SET with so many LAYOUTS that it is LAYABLE, the first with so many MELDS. */
    private static void layable(String cards, long ways, int melds) {
        fresh(cards).taken("ways", ways, y -> y.ways(set(cards)));
        x = fresh(cards).taken("layout", melds, y -> y.layout(set(cards)));
        CHECKS.due(cards + " is SHOWN", Long.bitCount(set(cards)), x.shows(2));
    }

    /** A SET without a LAYOUT: 0 ways are no fault, but a LAYOUT that is not there is one. */
    private static void notLayable(String cards) {
        x = kept(cards).taken("ways", 0, y -> y.ways(set(cards)));
        CHECKS.due(cards + ": ways keeps nothing", 6, x.shows(2));
        kept(cards).refused("layout", 3, y -> y.layout(set(cards)));
    }

    private static void places(String cards, int want) {
        for (String word : cards.split(" ")) {
            CHECKS.due("place of " + word, want, x.place(Checks.card(word)));
        }
    }

    /** "No GAME, OPENING 30, a LAYOUT of the empty SET; STATUS 0." */
    private static void newObject() {
        x = new RummyTable();
        CHECKS.due("1: status", 0, x.status());
        for (int card = 0; card < 52; card++) {
            CHECKS.due("1: place(" + card + ")", 0, x.place(card));
            CHECKS.due("1: stands(" + card + ")", 0, x.stands(card));
        }
        for (int what = 0; what <= 5; what++) {
            CHECKS.due("1: shows(" + what + ")", 0, x.shows(what));
        }
        CHECKS.due("1: status", 0, x.status());
        fresh("1: no GAME").refused("table", 4, y -> y.table());
        fresh("1: no GAME").refused("tell(6)", 4, y -> y.tell(6));
        new Boundary(CHECKS, "1: OPENING 30", y -> y.deal(2, 3, 304)).refused("29", 7, y -> y.lay(set("9b 10b J")));
        new Boundary(CHECKS, "1: OPENING 30", y -> y.deal(2, 3, 987)).taken("30", 3, y -> y.lay(set("10a 10b 10c")));
    }

    /** "A GROUP is 3 or 4 CARDS (no JOKERS) of one NUMBER" */
    private static void groupOfThreeOrFour() {
        for (String number : "1 7 13".split(" ")) {
            notLayable("Na".replace("N", number));
            notLayable("Na Nb".replace("N", number));
            layable("Na Nb Nc".replace("N", number), 1, 1);
            CHECKS.due("GROUPS", 1, x.shows(0));
            layable("Nb Nc Nd".replace("N", number), 1, 1);
            layable("Na Nc Nd".replace("N", number), 1, 1);
            layable("Na Nb Nd".replace("N", number), 1, 1);
            layable("Na Nb Nc Nd".replace("N", number), 1, 1);
            CHECKS.due("GROUPS", 1, x.shows(0));
            notLayable("Na Nb Nc Nd J".replace("N", number));
            notLayable("Na Nb Nc Nd K".replace("N", number));
        }
        notLayable("7a 7b 8c");
        notLayable("7a 7b 8c 8d");
    }

    /** "a RUN 3 CARDS or more of one COLOUR, their NUMBERS one behind the other" */
    private static void runOfThreeOrMore() {
        notLayable("5a 6a");
        layable("5a 6a 7a", 1, 1);
        CHECKS.due("the longest", 3, x.shows(5));
        layable("5a 6a 7a 8a", 1, 1);
        CHECKS.due("the longest", 4, x.shows(5));
        layable("5a 6a 7a 8a 9a", 1, 1);
        CHECKS.due("the longest", 5, x.shows(5));
        layable("5a 6a 7a 8a 9a 10a", 2, 2);
        layable(RUN_OF_13, 28, 4);
        notLayable("5a 6a 8a");
        notLayable("5a 7a 9a");
        notLayable("5a 6a 7b");
        notLayable("5a 6b 7c");
        notLayable("5a 6a 7a 9a");
        notLayable("5a 6a 7a 9a 10a");
        layable("5a 6a 7a 9a 10a 11a", 1, 2);
    }

    /** NUMBERS are 1 to 13: no RUN goes on from 13 to 1, nor from the last CARD of a COLOUR to the next COLOUR. */
    private static void runsEndAtBothEnds() {
        layable("1d 2d 3d", 1, 1);
        layable("11a 12a 13a", 1, 1);
        notLayable("12a 13a 1a");
        notLayable("13a 1a 2a");
        notLayable("12a 13a 1b");
        notLayable("13a J 2a");
        notLayable("11a 12a 13a 1a");
    }

    /** "MELDS ... in which no CARD is twice" */
    private static void noCardTwice() {
        notLayable("1a 1b 1c 2a 3a");
        layable("1a 1b 1c 1d 2a 3a", 1, 2);
        notLayable("3a 4a 5a 6a 7a 5b 5c");
        layable("2a 3a 4a 5a 6a 7a 8a 5b 5c", 1, 3);
        // Nor may two JOKERS stand for one CARD: 11a and 11d are taken by the RUNS.
        layable("12a 13a 11b 11c J K", 1, 2);
        notLayable("12a 13a 12d 13d 11b 11c J K");
        // Nor may a JOKER stand for a CARD that is SHOWN by itself.
        notLayable("11a 12a 13a 11d 12d 13d 11b 11c J");
    }

    /** "the empty one: without MELDS" */
    private static void emptyLayout() {
        x = kept("empty").taken("ways(0)", 1, y -> y.ways(0));
        CHECKS.due("ways keeps nothing", 6, x.shows(2));
        x = kept("empty").taken("layout(0)", 0, y -> y.layout(0));
        for (int what = 0; what <= 5; what++) {
            CHECKS.due("empty: shows(" + what + ")", 0, x.shows(what));
        }
        places(RUN_OF_13, 0);
        notLayable("J");
        notLayable("K");
        notLayable("J K");
    }

    /** "each of their CARDS is SHOWN, by itself or by a JOKER that stands for it" */
    private static void jokersStandForOthers() {
        layable("5a 7a J", 1, 1);
        CHECKS.due("in between", 1, x.stands(Checks.card("6a")));
        CHECKS.due("by itself", 0, x.stands(Checks.card("5a")));
        places("6a", 3);
        layable("5a 8a J K", 1, 1);
        CHECKS.due("the first of two", 1, x.stands(Checks.card("6a")));
        CHECKS.due("the last of two", 1, x.stands(Checks.card("7a")));
        notLayable("5a 8a J");
        notLayable("5a 9a J K");
        layable("5a 5b J", 2, 1);
        layable("5a J K", 6, 1);
        notLayable("5a J");
        notLayable("5a 9b J");
        notLayable("5a 9b J K");
    }

    /** "as many others by JOKERS as it has JOKERS": none may be left over. */
    private static void asManyOthersAsJokers() {
        layable("5a 5b 5c J", 1, 1);
        CHECKS.due("5d", 1, x.stands(Checks.card("5d")));
        notLayable("5a 5b 5c J K");
        layable("5a 6a 7a J", 2, 1);
        layable("5a 6a 7a J K", 3, 1);
        layable(RUN_OF_13.substring(3) + " J", 28, 4);
        notLayable(RUN_OF_13 + " J");
        // Both in the RUN of 13, that has 28; or both beside one of the 11 in a GROUP, three for each of 29.
        layable("1a 2a 3a 4a 5a 6a 7a 8a 9a 10a 11a J K", 28 + 3 * 29, 4);
        // 13a has room for one only: both beside one of the 12, three for each of 44.
        layable("1a 2a 3a 4a 5a 6a 7a 8a 9a 10a 11a 12a J K", 3 * 44, 4);
        // Which JOKER it is makes no LAYOUT another.
        layable("5a 6a 7a K", 2, 1);
        CHECKS.due("JOKERS", 1, x.shows(3));
    }

    /** A JOKER stands for no NUMBER below 1 or above 13. */
    private static void jokerAtTheEnds() {
        layable("1a 2a J", 1, 1);
        CHECKS.due("3a", 1, x.stands(Checks.card("3a")));
        layable("12a 13a J", 1, 1);
        CHECKS.due("11a", 1, x.stands(Checks.card("11a")));
        layable("1a 2a 3a J", 1, 1);
        layable("11a 12a 13a K", 1, 1);
        layable("2a 3a 4a J", 2, 1);
        layable("10a 11a 12a K", 2, 1);
        // 11a 12a, or two of the three other 13s.
        layable("13a J K", 4, 1);
        layable("1a J K", 4, 1);
        // 1a 3a, or 3a 4a, or two of the three other 2s.
        layable("2a J K", 5, 1);
        layable("12a J K", 5, 1);
    }

    /** "of CARD k 0, if it is not SHOWN": the least PLACE, so a JOKER stands as late as it can. */
    private static void notShownIsFirst() {
        // 0 ahead of 2.
        layable("5a 6a 7a J", 2, 1);
        places("4a", 0);
        places("8a", 3);
        // 0 ahead of 1.
        layable("5b 5c J", 2, 1);
        places("5a", 0);
        places("5d", 1);
        // 0 ahead of 3: not 8a nor 8b, but 12c.
        layable("5a 6a 7a 5b 6b 7b 9c 10c 11c J", 6, 3);
        places("4a 4b 8a 8b 8c", 0);
        places("12c", 3);
    }

    /** "1 in a GROUP, 2 at the beginning of a RUN, 3 further on in one" */
    private static void groupIsAheadOfRun() {
        // 1 ahead of 2.
        layable("4a 4b 4c 4d 5a 6a 7a", 2, 2);
        places("4a 4b 4c 4d", 1);
        places("5a", 2);
        places("6a 7a", 3);
        // 1 ahead of 3.
        layable("1a 2a 3a 4a 4b 4c 4d", 2, 2);
        places("4a 4b 4c 4d", 1);
        places("1a", 2);
        places("2a 3a", 3);
        layable("1a 1b 1c 2a 2b 2c 3a 3b 3c", 2, 3);
        places("1a 1b 1c 2a 2b 2c 3a 3b 3c", 1);
    }

    private static void beginningIsAheadOfFurtherOn() {
        layable("1a 2a 3a 4a 5a 6a", 2, 2);
        places("1a 4a", 2);
        places("2a 3a 5a 6a", 3);
        // One more: that 4a begins a RUN comes ahead of all that is behind it.
        layable("1a 2a 3a 4a 5a 6a 7a", 3, 2);
        places("1a 4a", 2);
        places("5a 6a 7a", 3);
        layable("8a 9a 10a 11a 12a", 1, 1);
        places("8a", 2);
        places("11a", 3);
    }

    /** "the lesser PLACE of the first CARD in which these differ": whatever the CARDS behind it say. */
    private static void firstCardDecides() {
        // 3a in a GROUP leaves 3d to begin a RUN; the other way round 3a (the first) would begin one.
        layable("3a 3b 3c 3d 4a 5a 4d 5d 6a 6d", 3, 3);
        places("3a 3b 3c 3d", 1);
        places("4a 4d", 2);
        layable("3a 3b 3c 3d 4d 5d", 1, 2);
        places("3a 3b 3c", 1);
        places("3d", 2);
        // A JOKER for 3d frees 3a or stands in the RUN: 3a in the GROUP is ahead, though 6a is SHOWN then.
        layable("3a 3b 3c 4a 5a J", 2, 2);
        places("3a 3b 3c", 1);
        places("3d", 0);
        places("6a", 3);
    }

    private static void allCards() {
        fresh("all 52").taken("ways", ALL_WAYS, y -> y.ways(ALL_52));
        x = fresh("all 52").taken("layout", 13, y -> y.layout(ALL_52));
        CHECKS.due("all 52: GROUPS", 13, x.shows(0));
        CHECKS.due("all 52: SHOWN", 52, x.shows(2));
        CHECKS.due("all 52: WORTH", 340, x.shows(4));
        kept("all 52 and a JOKER").refused("layout", 3, y -> y.layout(ALL_52 | 1L << 52));
        kept("all 54").refused("layout", 3, y -> y.layout(ALL_52 | 3L << 52));
        x = fresh("JOKERS for the last two").taken("layout", 13, y -> y.layout(ALL_52 >>> 2 | 3L << 52));
        CHECKS.due("13c", 1, x.stands(50));
        CHECKS.due("13d", 1, x.stands(51));
        CHECKS.due("JOKERS", 2, x.shows(3));
    }

    /** "what 0 ... 5 ... NONE for others": and they have no STATUS. */
    private static void showsEachWhat() {
        x = new RummyTable();
        CHECKS.due("8: MELDS", 2, x.layout(set("2b 4b 9a 9b 9c J")));
        x.ways(-1);
        int[] want = {1, 1, 6, 1, 36, 3};
        for (int what = 0; what <= 5; what++) {
            CHECKS.due("8: shows(" + what + ")", want[what], x.shows(what));
        }
        for (int what : new int[] {Integer.MIN_VALUE, -2, -1, 6, 7, Integer.MAX_VALUE}) {
            CHECKS.due("8: shows(" + what + ")", -1, x.shows(what));
        }
        CHECKS.due("8: no STATUS", 1, x.status());
        // "WORTH of the CARDS SHOWN, by NUMBERS": 10 at most, and no 20 for a JOKER.
        x.layout(set("11a 12a J"));
        CHECKS.due("8: three of 10", 30, x.shows(4));
        x.layout(set("1a 1b J"));
        CHECKS.due("8: three of 1", 3, x.shows(4));
    }

    /** "the longest RUN (0 without one)" */
    private static void longestRun() {
        x = new RummyTable();
        x.layout(set("9a 9b 9c 9d"));
        CHECKS.due("8: no RUN", 0, x.shows(5));
        x.layout(set("9a 10a 11a"));
        CHECKS.due("8: the shortest", 3, x.shows(5));
        x.layout(set("9a 10a 11a 1d 2d 3d 4d 5d"));
        CHECKS.due("8: of two", 5, x.shows(5));
        x.layout(set("9d 10d 11d 1a 2a 3a 4a J"));
        CHECKS.due("8: a JOKER makes the later one longer", 4, x.shows(5));
        x.layout(set("9d 10d 11d 12d 13d 1a 2a 3a 4a"));
        CHECKS.due("8: of two", 5, x.shows(5));
        x.layout(set("1a 2a 3a 4a 5a 6a"));
        CHECKS.due("8: two that touch", 3, x.shows(5));
        x.layout(set(RUN_OF_13));
        CHECKS.due("8: 3, 3, 3 and 4", 4, x.shows(5));
    }

    private static void refusedKeepsTheLayout() {
        kept("4").refused("layout without one", 3, y -> y.layout(set("1a 2a")));
        kept("4").refused("layout of none", 1, y -> y.layout(1L << 54));
        kept("5").refused("best without one", 3, y -> y.best(set("1a 2a"), set("4a"), 0));
        kept("5").refused("best of shared", 2, y -> y.best(7, 7, 0));
        kept("5").refused("best without an AIM", 1, y -> y.best(7, 8, 2));
    }
}
