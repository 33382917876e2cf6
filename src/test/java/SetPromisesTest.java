/** Promises 1 to 9, each by answers that were found by hand from the document. */
public final class SetPromisesTest {
    private static final Checks CHECKS = new Checks();
    private static final long NO_SET = 1L << 54;
    private static RummyTable x;

    public static void main(String[] args) {
        newObject();
        status();
        ways();
        layout();
        firstLayout();
        bestCards();
        bestWorth();
        bestRefused();
        place();
        stands();
        shows();
        worth();
        CHECKS.finish();
    }

    private static long set(String cards) {
        return Checks.set(cards);
    }

    private static void places(String cards, int want) {
        for (String word : cards.split(" ")) {
            CHECKS.due("place of " + word, want, x.place(Checks.card(word)));
        }
    }

    private static void newObject() {
        x = new RummyTable();
        CHECKS.due("1: status()", 0, x.status());
        for (int what = 0; what <= 5; what++) {
            CHECKS.due("1: shows(" + what + ")", 0, x.shows(what));
        }
        for (int card = 0; card < 52; card++) {
            CHECKS.due("1: place(" + card + ")", 0, x.place(card));
            CHECKS.due("1: stands(" + card + ")", 0, x.stands(card));
        }
        CHECKS.due("1: table()", -1, x.table());
        CHECKS.due("1: status()", 4, x.status());
        // Seed 987 deals 10a 10b 10c: worth just 30, which is the OPENING at first.
        x.deal(2, 3, 987);
        CHECKS.due("1: lay", 3, x.lay(set("10a 10b 10c")));
        x = new RummyTable();
        // Seed 304 deals 9b 10b and a JOKER: 29 at most.
        x.deal(2, 3, 304);
        CHECKS.due("1: lay", -1, x.lay(set("9b 10b J")));
        CHECKS.due("1: status()", 7, x.status());
        CHECKS.due("NONE", -1, RummyTable.NONE);
    }

    private static void status() {
        x = new RummyTable();
        x.ways(NO_SET);
        CHECKS.due("2: status()", 1, x.status());
        CHECKS.due("2: status() again", 1, x.status());
        x.place(0);
        x.place(-1);
        x.stands(99);
        x.shows(2);
        x.shows(-1);
        CHECKS.due("2: what tells of a LAYOUT has none", 1, x.status());
        x.ways(0);
        CHECKS.due("2: status()", 0, x.status());
        x.best(3, 1, 0);
        CHECKS.due("2: status()", 2, x.status());
        x.worth(3);
        CHECKS.due("2: status()", 0, x.status());
    }

    private static void ways() {
        x = new RummyTable();
        CHECKS.due("3: empty", 1, x.ways(0));
        CHECKS.due("3: group of 4", 1, x.ways(set("7a 7b 7c 7d")));
        CHECKS.due("3: run of 5", 1, x.ways(set("1a 2a 3a 4a 5a")));
        CHECKS.due("3: run of 6", 2, x.ways(set("1a 2a 3a 4a 5a 6a")));
        // 13 in parts of 3 at least: 1 in one, 8 in two, 15 in three, 4 in four.
        CHECKS.due("3: run of 13", 28, x.ways(set("1a 2a 3a 4a 5a 6a 7a 8a 9a 10a 11a 12a 13a")));
        CHECKS.due("3: no run over the end", 0, x.ways(set("12a 13a 1a")));
        CHECKS.due("3: two colours", 0, x.ways(set("5a 6a 7b")));
        CHECKS.due("3: gap", 0, x.ways(set("5a 6a 8a 9a")));
        CHECKS.due("3: one card left over", 0, x.ways(set("5a 5b 5c 9d")));
        CHECKS.due("3: gap with joker", 1, x.ways(set("5a 6a 8a 9a J")));
        // 4a or 8a, or 5a 6a 7a stays and nothing else takes a lone joker.
        CHECKS.due("3: run and joker", 2, x.ways(set("5a 6a 7a K")));
        CHECKS.due("3: run to the end and joker", 1, x.ways(set("11a 12a 13a K")));
        CHECKS.due("3: full group and joker", 0, x.ways(set("5a 5b 5c 5d J")));
        // The group of 3 takes one joker only; both jokers: 3a 4a, 4a 8a, 8a 9a.
        CHECKS.due("3: run and two jokers", 3, x.ways(set("5a 6a 7a J K")));
        CHECKS.due("3: group and two jokers", 0, x.ways(set("5a 5b 5c J K")));
        // In the group 5b 5c, or 5b 5d, or 5c 5d; in a run 3a 4a, 4a 6a, 6a 7a.
        CHECKS.due("3: one and two jokers", 6, x.ways(set("5a J K")));
        CHECKS.due("3: wrong", -1, x.ways(NO_SET));
        CHECKS.due("3: status", 1, x.status());
        CHECKS.due("3: wrong", -1, x.ways(Long.MIN_VALUE));
        CHECKS.due("3: wrong", -1, x.ways(Long.MIN_VALUE | 7));
        CHECKS.due("3: no layout", 0, x.ways(set("1a")));
        CHECKS.due("3: status", 0, x.status());
        x.layout(set("7a 7b 7c"));
        x.ways(set("1a 2a 3a"));
        CHECKS.due("3: keeps no LAYOUT", 1, x.shows(0));
    }

    private static void layout() {
        x = new RummyTable();
        CHECKS.due("4: two", 2, x.layout(set("1a 2a 3a 9b 9c 9d")));
        CHECKS.due("4: none", -1, x.layout(set("1a 2a")));
        CHECKS.due("4: status", 3, x.status());
        CHECKS.due("4: the one before is kept", 1, x.shows(1));
        CHECKS.due("4: wrong", -1, x.layout(-1));
        CHECKS.due("4: status", 1, x.status());
        CHECKS.due("4: the one before is kept", 6, x.shows(2));
        CHECKS.due("4: jokers alone", -1, x.layout(set("J K")));
        CHECKS.due("4: status", 3, x.status());
        CHECKS.due("4: empty", 0, x.layout(0));
        CHECKS.due("4: status", 0, x.status());
        CHECKS.due("4: empty is kept", 0, x.shows(2));
        CHECKS.due("4: all 52", 13, x.layout((1L << 52) - 1));
        CHECKS.due("4: all 52 are in groups", 13, x.shows(0));
        CHECKS.due("4: no place for a joker", -1, x.layout((1L << 53) - 1));
    }

    private static void firstLayout() {
        x = new RummyTable();
        // Of a run of 6 in one or in two, that is first where 4a is at the beginning (2 before 3).
        CHECKS.due("4: run of 6", 2, x.layout(set("1a 2a 3a 4a 5a 6a")));
        places("1a 4a", 2);
        places("2a 3a 5a 6a", 3);
        // 3a in the group or in the run: in the group (1 before 3) only if 2a can do without it.
        CHECKS.due("4: crossing", 2, x.layout(set("3a 3b 3c 3d 4a 5a 6a")));
        places("3a 3b 3c 3d", 1);
        places("4a", 2);
        CHECKS.due("4: crossing, run needs it", 2, x.layout(set("3a 3b 3c 3d 4a 5a")));
        places("3b 3c 3d", 1);
        places("3a", 2);
        // A joker as late as can be: 5a before 2a would show 2a.
        CHECKS.due("4: run and joker", 1, x.layout(set("3a 4a 5a J")));
        places("2a", 0);
        places("6a", 3);
        CHECKS.due("4: pair and joker", 1, x.layout(set("5b 5d J")));
        places("5a", 0);
        places("5c", 1);
        CHECKS.due("4: one and two jokers", 1, x.layout(set("5a J K")));
        places("3a 4a 6a", 0);
        places("5b", 0);
        places("5a 5c 5d", 1);
    }

    private static void bestCards() {
        x = new RummyTable();
        CHECKS.due("5: nothing", 0, x.best(0, set("1a 5b 9c"), 0));
        CHECKS.due("5: status", 0, x.status());
        CHECKS.due("5: the empty LAYOUT is kept", 0, x.shows(2));
        CHECKS.due("5: all", set("1a 2a 3a 4a"), x.best(0, set("1a 2a 3a 4a"), 0));
        CHECKS.due("5: most cards", set("1a 2a 4a 5a J"), x.best(0, set("1a 2a 4a 5a 13a 13b J"), 0));
        CHECKS.due("5: kept", 5, x.shows(5));
        CHECKS.due("5: two melds", set("1a 2a 3a 4a 4b 4c"), x.best(0, set("1a 2a 3a 4a 4b 4c"), 0));
        CHECKS.due("5: of two as many, the first", set("1a 1b 1c"), x.best(0, set("1a 1b 1c 2a 3a"), 0));
        CHECKS.due("5: first by the least card in one alone", set("5a 5b 5c"), x.best(0, set("5a 5b 5c 6b 7b"), 0));
        CHECKS.due("5: beside", set("4a"), x.best(set("1a 2a 3a"), set("4a 6a"), 0));
        CHECKS.due("5: must itself needs it", set("3c"), x.best(set("3a 3b"), set("3c 9a"), 0));
        CHECKS.due("5: laid anew", set("3d"), x.best(set("3a 3b 3c"), set("3d"), 0));
        CHECKS.due("5: taken apart", set("4a 5a"), x.best(set("3a 3b 3c 3d"), set("4a 5a"), 0));
        CHECKS.due("5: not taken apart", 0, x.best(set("3a 3b 3c"), set("4a 5a"), 0));
        CHECKS.due("5: run and joker", set("3a 4a 5a J"), x.best(0, set("3a 4a 5a J"), 0));
        // Not both jokers beside three fives; of four cards 5c is ahead of the second joker.
        CHECKS.due("5: one joker of two, the first", set("5a 5b 5c J"), x.best(0, set("5a 5b 5c J K"), 0));
        CHECKS.due("5: last joker where the first is laid", set("K"), x.best(set("11a 12a J"), set("K"), 0));
        CHECKS.due("5: full group leaves a joker", set("5a 5b 5c 5d"), x.best(0, set("5a 5b 5c 5d 9c"), 0));
        CHECKS.due("5: joker that must be laid takes a free card's place",
                set("13a 13b 13c"), x.best(set("J"), set("13a 13b 13c 13d"), 0));
    }

    private static void bestWorth() {
        x = new RummyTable();
        // The joker with four cards worth 12, or with two worth 20.
        CHECKS.due("5: aim 1", set("13a 13b J"), x.best(0, set("1a 2a 4a 5a 13a 13b J"), 1));
        CHECKS.due("5: kept", 1, x.shows(0));
        // 11, 12 and 13 are worth 10 each, so the first of equal worth.
        CHECKS.due("5: 10 at most", set("11a 11b 11c"), x.best(0, set("11a 11b 11c 12a 13a"), 1));
        CHECKS.due("5: joker is worth 20", set("2a 3a J"), x.best(0, set("2a 3a J"), 1));
        CHECKS.due("5: jokers", set("9b J K"), x.best(0, set("9b J K"), 1));
        CHECKS.due("5: a joker before a king", set("13a 13b J K"), x.best(0, set("13a 13b 13c J K"), 1));
    }

    private static void bestRefused() {
        x = new RummyTable();
        x.layout(set("7a 7b 7c"));
        CHECKS.due("5: wrong must", -1, x.best(NO_SET, 0, 0));
        CHECKS.due("5: status", 1, x.status());
        CHECKS.due("5: wrong may", -1, x.best(0, -1, 0));
        CHECKS.due("5: status", 1, x.status());
        CHECKS.due("5: wrong aim", -1, x.best(1, 1, -1));
        CHECKS.due("5: status, 1 ahead of 2", 1, x.status());
        CHECKS.due("5: wrong aim", -1, x.best(0, 0, 2));
        CHECKS.due("5: shared", -1, x.best(3, 2, 1));
        CHECKS.due("5: status, 2 ahead of 3", 2, x.status());
        CHECKS.due("5: no layout", -1, x.best(set("1a 5b"), set("1b 2c 9d"), 1));
        CHECKS.due("5: status", 3, x.status());
        CHECKS.due("5: jokers alone", -1, x.best(set("J K"), 0, 0));
        CHECKS.due("5: status", 3, x.status());
        CHECKS.due("5: nothing was kept", 1, x.shows(0));
        CHECKS.due("5: nothing was kept", 21, x.shows(4));
    }

    private static void place() {
        x = new RummyTable();
        x.layout(set("2b 3b 4b 5b 9a 9c J"));
        places("2b", 2);
        places("3b 4b 5b", 3);
        places("9a 9c", 1);
        places("1a 2a 13d", 0);
        CHECKS.due("6: below 0", -1, x.place(-1));
        CHECKS.due("6: joker", -1, x.place(52));
        CHECKS.due("6: joker", -1, x.place(53));
        CHECKS.due("6: none", -1, x.place(Integer.MAX_VALUE));
        CHECKS.due("6: none", -1, x.place(Integer.MIN_VALUE));
    }

    private static void stands() {
        x = new RummyTable();
        x.layout(set("2b 4b 9a 9c J K"));
        CHECKS.due("7: in the run", 1, x.stands(Checks.card("3b")));
        CHECKS.due("7: in the group", 0, x.stands(Checks.card("9b")));
        CHECKS.due("7: in the group, the last is first", 1, x.stands(Checks.card("9d")));
        CHECKS.due("7: by itself", 0, x.stands(Checks.card("9a")));
        CHECKS.due("7: not shown", 0, x.stands(Checks.card("13d")));
        CHECKS.due("7: none", -1, x.stands(-1));
        CHECKS.due("7: none", -1, x.stands(52));
        CHECKS.due("7: none", -1, x.stands(Integer.MIN_VALUE));
    }

    private static void shows() {
        x = new RummyTable();
        CHECKS.due("8: melds", 4, x.layout(set("2b 4b 9a 9c J K 10a 11a 12a 13a 6d 7d 8d")));
        CHECKS.due("8: groups", 1, x.shows(0));
        CHECKS.due("8: runs", 3, x.shows(1));
        CHECKS.due("8: shown", 13, x.shows(2));
        CHECKS.due("8: jokers", 2, x.shows(3));
        CHECKS.due("8: worth by numbers", 9 + 27 + 40 + 21, x.shows(4));
        CHECKS.due("8: longest", 4, x.shows(5));
        CHECKS.due("8: other", -1, x.shows(6));
        CHECKS.due("8: other", -1, x.shows(-1));
        CHECKS.due("8: other", -1, x.shows(Integer.MAX_VALUE));
        x.layout(set("9a 9b 9c"));
        CHECKS.due("8: no run", 0, x.shows(5));
        // Two runs that touch are two, not one of six.
        x.layout(set("1a 2a 3a 4a 5a 6a"));
        CHECKS.due("8: touching runs", 3, x.shows(5));
    }

    private static void worth() {
        x = new RummyTable();
        CHECKS.due("9: 9", 9, x.worth(set("9a")));
        for (String card : "10d 11c 12b 13a".split(" ")) {
            CHECKS.due("9: " + card, 10, x.worth(set(card)));
        }
        CHECKS.due("9: jokers", 40, x.worth(set("J K")));
        CHECKS.due("9: all", 4 * (55 + 30) + 40, x.worth((1L << 54) - 1));
        CHECKS.due("9: status", 0, x.status());
        CHECKS.due("9: wrong", -1, x.worth(NO_SET));
        CHECKS.due("9: status", 1, x.status());
        CHECKS.due("9: wrong", -1, x.worth(Long.MIN_VALUE));
    }
}
