import java.util.function.Consumer;

/** "Terms", ==== 3, at its boundaries: OPENING, what is LAID, LAYINGS of a TURN, and ROBOT. */
public final class OpeningBoundariesTest {
    private static final Checks CHECKS = new Checks();
    private static final int[] FAR = {Integer.MIN_VALUE, -30, Integer.MAX_VALUE};

    public static void main(String[] args) {
        zeroToTwoHundred();
        refusedOpeningIsNoOpening();
        thirtyAtFirst();
        notBelowOpening();
        twoHundred();
        zero();
        shownWorthByNumbers();
        firstLayoutDecides();
        openedStaysOpened();
        openedOneByOne();
        notAnEmptyPart();
        partOfTheHand();
        layableByItselfToo();
        layableWithTheTable();
        layoutThenAndThere();
        anyNumberOfLayings();
        robotAims();
        robotAtOpening();
        robotTakesOnlyTheBest();
        robotWithNothingToLay();
        robotThatHasOpened();
        robotWins();
        robotAtTheEndOfTheRow();
        CHECKS.finish();
    }

    private static long set(String cards) {
        return Checks.set(cards);
    }

    private static Consumer<RummyTable> dealt(int players, int many, int seed, int opening) {
        return Boundary.ended(players, many, seed, opening, 0);
    }

    private static Boundary at(String where, Consumer<RummyTable> setup) {
        return new Boundary(CHECKS, where, setup);
    }

    private static void lays(String when, Consumer<RummyTable> setup, String cards, int lying) {
        RummyTable x = at(when, setup).taken("lay " + cards, lying, y -> y.lay(set(cards)));
        CHECKS.due(when + ": has OPENED", 1, x.player(x.tell(0), 0));
        CHECKS.due(when + ": on the TABLE", set(cards), x.table() & set(cards));
        CHECKS.due(when + ": in the HAND", 0, x.hand(x.tell(0)) & set(cards));
    }

    private static void refuses(String when, Consumer<RummyTable> setup, String cards, int status) {
        at(when, setup).refused("lay " + cards, status, x -> x.lay(set(cards)));
    }

    /** "OPENING is a number (0 to 200 ...)" */
    private static void zeroToTwoHundred() {
        Boundary none = at("10, no GAME", x -> x.layout(7));
        Boundary game = at("10, in a GAME", dealt(2, 3, 377, 21));
        Boundary over = at("10, OVER", Boundary::won);
        for (Boundary one : new Boundary[] {none, game, over}) {
            one.refused("opening(-1)", 1, x -> Boundary.orNone(x.opening(-1)));
            one.taken("opening(0)", 1, x -> Boundary.orNone(x.opening(0)));
            one.taken("opening(200)", 1, x -> Boundary.orNone(x.opening(200)));
            one.refused("opening(201)", 1, x -> Boundary.orNone(x.opening(201)));
            for (int far : FAR) {
                one.refused("opening(" + far + ")", 1, x -> Boundary.orNone(x.opening(far)));
            }
        }
    }

    private static void refusedOpeningIsNoOpening() {
        for (int wrong : new int[] {-1, 201, Integer.MIN_VALUE, Integer.MAX_VALUE}) {
            lays("10: 21 behind opening(" + wrong + ")", x -> {
                dealt(2, 3, 377, 21).accept(x);
                x.opening(wrong);
            }, "7b 7c 7d", 3);
            refuses("10: 22 behind opening(" + wrong + ")", x -> {
                dealt(2, 3, 377, 22).accept(x);
                x.opening(wrong);
            }, "7b 7c 7d", 7);
        }
    }

    /** "30 at first" */
    private static void thirtyAtFirst() {
        refuses("29 of 30", x -> x.deal(2, 3, 304), "9b 10b J", 7);
        lays("30 of 30", x -> x.deal(2, 3, 987), "10a 10b 10c", 3);
        lays("30 of 30, the second GAME", x -> {
            x.deal(2, 3, 304);
            x.deal(2, 3, 987);
        }, "10a 10b 10c", 3);
    }

    /** "not below OPENING" */
    private static void notBelowOpening() {
        lays("OPENING one less", dealt(2, 3, 377, 20), "7b 7c 7d", 3);
        lays("OPENING as much", dealt(2, 3, 377, 21), "7b 7c 7d", 3);
        refuses("OPENING one more", dealt(2, 3, 377, 22), "7b 7c 7d", 7);
        refuses("OPENING 200", dealt(2, 3, 377, 200), "7b 7c 7d", 7);
    }

    private static void twoHundred() {
        String worth200 = "6d 7b 7d 8b 8c 8d 9a 9b 9d 10a 10c 10d 11a 11b 11d 12a 12b 12d 13a 13d J K";
        String worth199 = "6d 7b 7d 8a 8b 8c 8d 9a 9b 10a 10c 10d 11a 11b 11d 12a 12b 12d 13a 13d J K";
        lays("200 of 200", Boundary.ended(2, 13, 3582, 200, 28), worth200, 22);
        refuses("199 of 200", Boundary.ended(2, 13, 3582, 200, 28), worth199, 7);
        lays("199 of 199", Boundary.ended(2, 13, 3582, 199, 28), worth199, 22);
    }

    /** With 0 all is worth enough, but it must be LAYABLE still. */
    private static void zero() {
        lays("6 of 0", dealt(2, 13, 971, 0), "1d 2d 3d", 3);
        refuses("two CARDS of 0", dealt(2, 13, 971, 0), "1d 2d", 7);
        refuses("a CARD of 0", dealt(2, 13, 971, 0), "8c", 7);
        lays("6 of 6", dealt(2, 13, 971, 6), "1d 2d 3d", 3);
        refuses("6 of 7", dealt(2, 13, 971, 7), "1d 2d 3d", 7);
    }

    /** "by their NUMBERS; also of those that JOKERS stand for": 10 at most, and no 20 for a JOKER. */
    private static void shownWorthByNumbers() {
        lays("11 and 12 and a JOKER are 30", dealt(2, 3, 1459, 30), "11d 12d J", 3);
        refuses("11 and 12 and a JOKER are not 31", dealt(2, 3, 1459, 31), "11d 12d J", 7);
        lays("7, 9 and 8 by a JOKER are 24", dealt(2, 3, 240, 24), "7b 9b K", 3);
        refuses("7, 9 and 8 by a JOKER are not 25", dealt(2, 3, 240, 25), "7b 9b K", 7);
        lays("10, 12 and 11 by a JOKER are 30", dealt(2, 4, 4687, 30), "10d 12d J", 3);
        refuses("10, 12 and 11 by a JOKER are not 31", dealt(2, 4, 4687, 31), "10d 12d J", 7);
    }

    /** "of which the SHOWN CARDS of its LAYOUT": of the first, though another is worth more. */
    private static void firstLayoutDecides() {
        // A GROUP of 9 is 27; the RUN 9, 10, 11 would be 29.
        lays("the first is 27", dealt(2, 3, 5888, 27), "9b J K", 3);
        refuses("the first is below 28", dealt(2, 3, 5888, 28), "9b J K", 7);
        refuses("the first is below 29", dealt(2, 3, 5888, 29), "9b J K", 7);
        // 9b 10b and 11b (29) are ahead of 8b 9b 10b (27).
        lays("the first is 29", dealt(2, 3, 304, 29), "9b 10b J", 3);
    }

    /** "that one has OPENED then": for the rest of the GAME, whatever OPENING becomes. */
    private static void openedStaysOpened() {
        lays("in the same TURN", x -> {
            dealt(2, 13, 971, 6).accept(x);
            x.lay(set("1d 2d 3d"));
            x.opening(200);
        }, "5d 6d 7d", 6);
        lays("in a later TURN", x -> {
            dealt(2, 13, 971, 6).accept(x);
            x.lay(set("1d 2d 3d"));
            x.opening(200);
            x.end();
            x.end();
        }, "5d 6d 7d", 6);
        refuses("in a new GAME", x -> {
            dealt(2, 13, 971, 6).accept(x);
            x.lay(set("1d 2d 3d"));
            x.opening(200);
            x.deal(2, 13, 971);
        }, "5d 6d 7d", 7);
    }

    /** That one has OPENED is nothing for the others. */
    private static void openedOneByOne() {
        Consumer<RummyTable> second = x -> {
            x.deal(2, 4, 4687);
            x.lay(set("10d 12d J"));
            x.end();
        };
        CHECKS.due("the first has OPENED", 1, at("", second).made().player(0, 0));
        CHECKS.due("the second has not", 0, at("", second).made().player(1, 0));
        refuses("the second one, 9 of 30", second, "3a 3c 3d", 7);
        refuses("the second one, a CARD that fits the TABLE", second, "11d", 7);
        lays("the second one, 9 of 9", x -> {
            second.accept(x);
            x.opening(9);
        }, "3a 3c 3d", 6);
    }

    /** "LAYS a part of the HAND, not an empty one" */
    private static void notAnEmptyPart() {
        refuses("not OPENED", dealt(2, 3, 987, 0), "", 1);
        refuses("OPENED", x -> {
            x.deal(2, 4, 4687);
            x.lay(set("10d 12d J"));
        }, "", 1);
        refuses("no GAME", x -> { }, "", 1);
        lays("a part of one CARD", x -> {
            dealt(2, 4, 4687, 9).accept(x);
            x.lay(set("10d 12d J"));
            x.end();
            x.lay(set("3a 3c 3d"));
        }, "11d", 7);
        lays("all of the HAND", dealt(2, 3, 987, 30), "10a 10b 10c", 3);
    }

    private static void partOfTheHand() {
        Consumer<RummyTable> game = dealt(2, 4, 4687, 0);
        refuses("all of another HAND", game, "3a 3c 3d", 6);
        refuses("a CARD of another HAND", game, "10d 11d 12d J", 6);
        refuses("a CARD of the STOCK", game, "10d 12d J 8d", 6);
        refuses("the other JOKER", game, "10d 12d K", 6);
        lays("CARDS of the HAND alone", game, "10d 12d J", 3);
        refuses("CARDS of the TABLE", x -> {
            game.accept(x);
            x.lay(set("10d 12d J"));
        }, "10d", 6);
        refuses("CARDS of the one who does not play", Boundary.ended(2, 3, 987, 30, 1), "10a 10b 10c", 6);
    }

    /** "one who has not OPENED yet lays only what is LAYABLE by itself, too" */
    private static void layableByItselfToo() {
        refuses("one CARD too many", dealt(2, 4, 4687, 0), "7a 10d 12d J", 7);
        refuses("one CARD too few", dealt(2, 4, 4687, 0), "10d 12d", 7);
        refuses("only a JOKER", dealt(2, 4, 4687, 0), "J", 7);
        lays("LAYABLE", dealt(2, 4, 4687, 0), "10d 12d J", 3);
    }

    /** "with all that lies on the TABLE it must be LAYABLE": the CARDS that lie have no room for a second 3a, 4a. */
    private static void layableWithTheTable() {
        Consumer<RummyTable> second = x -> {
            dealt(2, 13, 1712, 0).accept(x);
            x.lay(set("2d 3a 3b 3c 3d 4d"));
            x.end();
        };
        refuses("by itself, not with the TABLE", second, "1a 2a 5a 5c 5d K", 3);
        lays("by itself and with the TABLE", second, "5a 5c 5d", 9);
        refuses("OPENED, and not with the TABLE", x -> {
            x.deal(2, 4, 4687);
            x.lay(set("10d 12d J"));
        }, "7a", 3);
    }

    /** "All that lies has its LAYOUT then, then and there." */
    private static void layoutThenAndThere() {
        RummyTable x = new RummyTable();
        x.opening(9);
        x.deal(2, 4, 4687);
        x.layout(set("1a 1b 1c 1d"));
        x.lay(set("10d 12d J"));
        CHECKS.due("16: the one before is gone", 0, x.place(0));
        CHECKS.due("16: SHOWN", 3, x.shows(2));
        CHECKS.due("16: for 11d", 1, x.stands(Checks.card("11d")));
        x.end();
        CHECKS.due("17: end keeps it", 3, x.shows(2));
        x.layout(0);
        x.lay(set("3a 3c 3d"));
        CHECKS.due("16: all that lies, not what was laid", 6, x.shows(2));
        CHECKS.due("16: for 11d", 1, x.stands(Checks.card("11d")));
        x.lay(set("11d"));
        CHECKS.due("16: laid anew, 11d by itself", 0, x.stands(Checks.card("11d")));
        // 3b, 9d and 13d are free: the later a JOKER is SHOWN, the better.
        CHECKS.due("16: for 13d", 1, x.stands(Checks.card("13d")));
        CHECKS.due("16: SHOWN", 7, x.shows(2));
    }

    /** "A TURN may have any number of LAYINGS" */
    private static void anyNumberOfLayings() {
        RummyTable x = new RummyTable();
        x.opening(6);
        x.deal(2, 13, 971);
        String[] parts = {"1d 2d 3d", "5d 6d 7d", "8d"};
        int lying = 0;
        for (int i = 0; i < parts.length; i++) {
            CHECKS.due("16: LAYINGS", i, x.tell(5));
            lying += Long.bitCount(set(parts[i]));
            CHECKS.due("16: lay " + parts[i], lying, x.lay(set(parts[i])));
            CHECKS.due("16: the same PLAYER", 0, x.tell(0));
            CHECKS.due("16: the TURN goes on", 0, x.tell(4));
        }
        CHECKS.due("16: a refused one", -1, x.lay(set("1c")));
        CHECKS.told("16", x, 0, 28, 0, -1, 0, 3, 2);
        CHECKS.due("17: no CARD", 54, x.end());
        CHECKS.told("17", x, 1, 28, 0, -1, 1, 0, 2);
    }

    /** "ROBOT for an AIM": 0 or 1; "(1; 4; 5)" */
    private static void robotAims() {
        Boundary none = at("18, no GAME", x -> { });
        Boundary game = at("18, in a GAME", dealt(2, 7, 20, 30));
        Boundary over = at("18, OVER", Boundary::won);
        for (int aim : new int[] {Integer.MIN_VALUE, -1, 2, 3, Integer.MAX_VALUE}) {
            none.refused("robot(" + aim + ")", 1, x -> x.robot(aim));
            game.refused("robot(" + aim + ")", 1, x -> x.robot(aim));
            over.refused("robot(" + aim + ")", 1, x -> x.robot(aim));
        }
        none.refused("robot(0)", 4, x -> x.robot(0));
        none.refused("robot(1)", 4, x -> x.robot(1));
        over.refused("robot(0)", 5, x -> x.robot(0));
        over.refused("robot(1)", 5, x -> x.robot(1));
        game.taken("robot(0)", 0, x -> x.robot(0));
        game.taken("robot(1)", 3, x -> x.robot(1));
    }

    /** "of one who has not OPENED ... if the rules of OPENING let it be laid" */
    private static void robotAtOpening() {
        RummyTable x = at("18", dealt(2, 4, 4687, 30)).taken("30 of 30", 3, y -> y.robot(0));
        CHECKS.told("18: laid", x, 1, 46, 0, -1, 1, 0, 2);
        CHECKS.due("18: TABLE", set("10d 12d J"), x.table());
        CHECKS.due("18: HAND", set("7a"), x.hand(0));
        CHECKS.due("18: has OPENED", 1, x.player(0, 0));
        CHECKS.due("18: the LAYOUT is kept", 3, x.shows(2));
        x = at("18", dealt(2, 4, 4687, 31)).taken("30 of 31", 0, y -> y.robot(0));
        CHECKS.told("18: not laid", x, 1, 45, 0, -1, 1, 0, 2);
        CHECKS.due("18: TABLE", 0, x.table());
        CHECKS.due("18: HAND", set("7a 8d 10d 12d J"), x.hand(0));
        CHECKS.due("18: has not OPENED", 0, x.player(0, 0));
    }

    /** It is BEST or nothing: that another part would be enough does not help. */
    private static void robotTakesOnlyTheBest() {
        // The most CARDS, 1a 1c K, are worth 3; the most WORTH, 11a 12a K, is worth 30.
        at("18", dealt(2, 7, 20, 3)).taken("most CARDS, 3 of 3", 3, x -> x.robot(0));
        at("18", dealt(2, 7, 20, 4)).taken("most CARDS, 3 of 4", 0, x -> x.robot(0));
        at("18", dealt(2, 7, 20, 30)).taken("most WORTH, 30 of 30", 3, x -> x.robot(1));
        at("18", dealt(2, 7, 20, 31)).taken("most WORTH, 30 of 31", 0, x -> x.robot(1));
        // The most WORTH, 6a 6c J K, shows 24; 5a 6a J K would show 26.
        at("18", dealt(2, 7, 311, 24)).taken("24 of 24", 4, x -> x.robot(1));
        at("18", dealt(2, 7, 311, 25)).taken("24 of 25", 0, x -> x.robot(1));
        at("18", dealt(2, 7, 311, 26)).taken("26 of 26", 4, x -> x.robot(0));
        at("18", dealt(2, 7, 311, 27)).taken("26 of 27", 0, x -> x.robot(0));
    }

    /** "a BEST part ... that is not empty": else the TURN ENDS, as one without a LAYING does. */
    private static void robotWithNothingToLay() {
        RummyTable x = at("18", dealt(2, 1, 7, 0)).taken("one CARD", 0, y -> y.robot(0));
        CHECKS.told("18: a CARD came", x, 1, 51, 0, -1, 1, 0, 2);
        CHECKS.due("18: HAND", set("6c 2a"), x.hand(0));
        x = at("18", y -> {
            dealt(2, 1, 7, 0).accept(y);
            y.layout(set("1a 1b 1c 1d"));
        }).taken("one CARD", 0, y -> y.robot(1));
        CHECKS.due("18: the LAYOUT that was kept", 4, x.shows(2));
        // OPENED, and 7a does not fit 10d 11d 12d.
        x = at("18", y -> {
            dealt(2, 4, 4687, 30).accept(y);
            y.lay(set("10d 12d J"));
            y.end();
            y.end();
        }).taken("nothing fits", 0, y -> y.robot(0));
        CHECKS.due("18: a CARD came", set("7a 9a"), x.hand(0));
        // What is LAYABLE by itself, and of enough WORTH, but not with the TABLE.
        x = at("18", y -> {
            dealt(2, 13, 1712, 0).accept(y);
            y.lay(set("2d 3a 3b 3c 3d 4d"));
            y.end();
        }).taken("not with the TABLE", 0, y -> y.robot(0));
        CHECKS.due("18: has not OPENED", 0, x.player(1, 0));
        CHECKS.due("18: a CARD came", 14, x.player(1, 1));
        // No STOCK: no CARD, and yet a TURN that ended.
        x = at("18", Boundary.ended(4, 13, 7, 200, 2)).taken("no STOCK", 0, y -> y.robot(0));
        CHECKS.told("18: no CARD came", x, 3, 0, 0, -1, 3, 0, 4);
        CHECKS.due("18: HAND", 13, x.player(2, 1));
    }

    private static void robotThatHasOpened() {
        Consumer<RummyTable> opened = x -> {
            dealt(2, 4, 4687, 9).accept(x);
            x.lay(set("10d 12d J"));
            x.end();
            x.lay(set("3a 3c 3d"));
            x.opening(200);
        };
        RummyTable x = at("18", opened).taken("one CARD beside the TABLE", 1, y -> y.robot(0));
        CHECKS.told("18: WON", x, 1, 46, 1, 1, 1, 2, 2);
        // Not OPENED: 3a 3c 3d at first, then 11d beside the TABLE, in one TURN.
        x = at("18", y -> {
            dealt(2, 4, 4687, 9).accept(y);
            y.lay(set("10d 12d J"));
            y.end();
        }).taken("two LAYINGS", 4, y -> y.robot(1));
        CHECKS.told("18: WON", x, 1, 46, 1, 1, 1, 2, 2);
        CHECKS.due("18: SHOWN", 7, x.shows(2));
        // A LAYING ahead of it in the same TURN: it goes on, and no CARD comes.
        x = at("18", y -> {
            dealt(2, 4, 4687, 30).accept(y);
            y.lay(set("10d 12d J"));
        }).taken("behind a LAYING", 0, y -> y.robot(0));
        CHECKS.told("18: no CARD came", x, 1, 46, 0, -1, 1, 0, 2);
        CHECKS.due("18: HAND", set("7a"), x.hand(0));
        robotLaysTheFirstCard();
    }

    /** A part that is CARD 0 alone (the SET 1) is not an empty one. */
    private static void robotLaysTheFirstCard() {
        RummyTable x = at("18", y -> {
            dealt(2, 5, 139564, 0).accept(y);
            y.lay(set("2a 3a 4a"));
        }).taken("1a alone", 1, y -> y.robot(0));
        CHECKS.due("18: HAND", set("13a"), x.hand(0));
        // 1a or the JOKER beside 1b 1c 1d: as many CARDS, but not of the same WORTH.
        Consumer<RummyTable> either = y -> {
            dealt(2, 5, 66335, 0).accept(y);
            y.lay(set("1b 1c 1d"));
        };
        x = at("18", either).taken("the first of two", 1, y -> y.robot(0));
        CHECKS.due("18: HAND", set("J"), x.hand(0));
        x = at("18", either).taken("the one of more WORTH", 1, y -> y.robot(1));
        CHECKS.due("18: HAND", set("1a"), x.hand(0));
    }

    /** "as long as it is not OVER ... then (if it is not OVER) the TURN ENDS" */
    private static void robotWins() {
        RummyTable x = at("18", dealt(2, 3, 987, 30)).taken("all of the HAND", 3, y -> y.robot(0));
        CHECKS.told("18: WON, the TURN has not ended", x, 0, 48, 1, 0, 0, 1, 2);
        x = at("18", Boundary.ended(4, 3, 91, 30, 3)).taken("all of the last HAND", 3, y -> y.robot(1));
        CHECKS.told("18: WON by the last", x, 3, 39, 1, 3, 3, 1, 4);
    }

    private static void robotAtTheEndOfTheRow() {
        RummyTable x = at("18", Boundary.ended(4, 13, 7, 200, 4)).taken("the last but one", 0, y -> y.robot(0));
        CHECKS.told("18: not OVER", x, 1, 0, 0, -1, 5, 0, 4);
        x = at("18", Boundary.ended(4, 13, 7, 200, 5)).taken("the last", 0, y -> y.robot(1));
        CHECKS.told("18: OVER", x, 2, 0, 1, -1, 6, 0, 4);
        x = at("18", Boundary.ended(4, 13, 14, 30, 5)).made();
        CHECKS.due("18: it lays", true, x.robot(1) > 0);
        CHECKS.told("18: the row is broken", x, 2, 0, 0, -1, 6, 0, 4);
    }
}
