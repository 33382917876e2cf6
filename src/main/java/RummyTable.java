import java.util.Arrays;

/** A table of runs and groups: what can be laid, how, and games that are played with it. */
public final class RummyTable {
    public static final int NONE = -1;

    private static final int FINE = 0;
    private static final int IMPOSSIBLE = 1;
    private static final int SHARED = 2;
    private static final int NO_LAYOUT = 3;
    private static final int NO_GAME = 4;
    private static final int ENDED = 5;
    private static final int NOT_HELD = 6;
    private static final int TOO_LITTLE = 7;

    private static final int CARDS = 54;
    private static final int NUMBERED = 52;
    private static final int NUMBERS = 13;
    private static final int COLOURS = 4;
    private static final int ALL_COLOURS = 15;
    private static final int MOST_JOKERS = 2;
    private static final int JOKER_COUNTS = MOST_JOKERS + 1;
    private static final int STATES = 256;
    private static final int STEPS = 94;
    private static final int MOST_PLAYERS = 4;
    private static final int MOST_OPENING = 200;
    private static final int NO_CARD = 54;

    private final Walk walk;
    private final Search search;
    private final Game game;
    private Layout kept;
    private Layout trial;
    private int opening;
    private int status;

    public RummyTable() {
        int[] steps = Step.allInOrder();
        walk = new Walk(steps);
        search = new Search(steps);
        game = new Game();
        kept = new Layout();
        trial = new Layout();
        opening = 30;
        status = FINE;
    }

    public int status() {
        return status;
    }

    // ---- SETS and LAYOUTS

    public long ways(long set) {
        if (!Card.isSet(set)) {
            return refuse(IMPOSSIBLE);
        }
        status = FINE;
        return walk.countLayouts(set);
    }

    public int layout(long set) {
        if (!Card.isSet(set)) {
            return refuse(IMPOSSIBLE);
        }
        if (!search.findFirst(set, trial)) {
            return refuse(NO_LAYOUT);
        }
        keepTrial();
        status = FINE;
        return kept.groups() + kept.runs();
    }

    public long best(long must, long may, int aim) {
        if (!Card.isSet(must) || !Card.isSet(may) || !isAim(aim)) {
            return refuse(IMPOSSIBLE);
        }
        if ((must & may) != 0) {
            return refuse(SHARED);
        }
        long part = walk.bestPart(must, may, aim);
        if (part < 0 || !search.findFirst(must | part, trial)) {
            return refuse(NO_LAYOUT);
        }
        keepTrial();
        status = FINE;
        return part;
    }

    public int place(int card) {
        return kept.placeOf(card);
    }

    public int stands(int card) {
        return kept.jokerFor(card);
    }

    public int shows(int what) {
        switch (what) {
            case 0:
                return kept.groups();
            case 1:
                return kept.runs();
            case 2:
                return kept.shownCards();
            case 3:
                return Card.jokersIn(kept.own);
            case 4:
                return kept.shownWorth();
            case 5:
                return kept.longestRun();
            default:
                return NONE;
        }
    }

    public int worth(long set) {
        if (!Card.isSet(set)) {
            return refuse(IMPOSSIBLE);
        }
        status = FINE;
        return Card.worthOfSet(set);
    }

    // ---- a GAME

    public boolean opening(int worth) {
        if (worth < 0 || worth > MOST_OPENING) {
            status = IMPOSSIBLE;
            return false;
        }
        opening = worth;
        status = FINE;
        return true;
    }

    public boolean deal(int players, int many, int seed) {
        boolean can = players >= 2 && players <= MOST_PLAYERS
                && many >= 1 && many <= NUMBERS
                && seed >= 1 && seed <= Game.MODULUS - 1;
        if (!can) {
            status = IMPOSSIBLE;
            return false;
        }
        game.begin(players, many, seed);
        status = FINE;
        return true;
    }

    public long hand(int player) {
        if (player < 0 || player >= MOST_PLAYERS) {
            return refuse(IMPOSSIBLE);
        }
        if (!game.isDealt()) {
            return refuse(NO_GAME);
        }
        if (!game.has(player)) {
            return refuse(IMPOSSIBLE);
        }
        status = FINE;
        return game.handOf(player);
    }

    public long table() {
        if (!game.isDealt()) {
            return refuse(NO_GAME);
        }
        status = FINE;
        return game.lying;
    }

    public int tell(int what) {
        if (what < 0 || what > 6) {
            return refuse(IMPOSSIBLE);
        }
        if (!game.isDealt()) {
            return refuse(NO_GAME);
        }
        status = FINE;
        return game.fact(what);
    }

    public int player(int player, int what) {
        if (what < 0 || what > 2) {
            return refuse(IMPOSSIBLE);
        }
        if (!game.isDealt()) {
            return refuse(NO_GAME);
        }
        if (!game.has(player)) {
            return refuse(IMPOSSIBLE);
        }
        status = FINE;
        if (what == 0) {
            return game.hasOpened(player) ? 1 : 0;
        }
        long held = game.handOf(player);
        return what == 1 ? Long.bitCount(held) : Card.worthOfSet(held);
    }

    public int lay(long cards) {
        if (!Card.isSet(cards) || cards == 0) {
            return refuse(IMPOSSIBLE);
        }
        int bar = barToPlay();
        if (bar != FINE) {
            return refuse(bar);
        }
        if ((cards & ~game.handOf(game.turn)) != 0) {
            return refuse(NOT_HELD);
        }
        int verdict = tryLaying(cards);
        if (verdict != FINE) {
            return refuse(verdict);
        }
        carryOut(cards);
        status = FINE;
        return Long.bitCount(game.lying);
    }

    public int end() {
        int bar = barToPlay();
        if (bar != FINE) {
            return refuse(bar);
        }
        status = FINE;
        return game.endTurn();
    }

    public int robot(int aim) {
        if (!isAim(aim)) {
            return refuse(IMPOSSIBLE);
        }
        int bar = barToPlay();
        if (bar != FINE) {
            return refuse(bar);
        }
        int laid = layAllBest(aim);
        if (!game.over) {
            game.endTurn();
        }
        status = FINE;
        return laid;
    }

    private int refuse(int reason) {
        status = reason;
        return NONE;
    }

    private static boolean isAim(int aim) {
        return aim == 0 || aim == 1;
    }

    private int barToPlay() {
        if (!game.isDealt()) {
            return NO_GAME;
        }
        return game.over ? ENDED : FINE;
    }

    private void keepTrial() {
        Layout old = kept;
        kept = trial;
        trial = old;
    }

    /** The STATUS that laying these would have; with FINE the trial is the LAYOUT of all that would lie. */
    private int tryLaying(long cards) {
        if (!game.hasOpened(game.turn)) {
            if (!search.findFirst(cards, trial) || trial.shownWorth() < opening) {
                return TOO_LITTLE;
            }
        }
        return search.findFirst(game.lying | cards, trial) ? FINE : NO_LAYOUT;
    }

    private void carryOut(long cards) {
        game.putDown(cards);
        keepTrial();
    }

    private int layAllBest(int aim) {
        int laid = 0;
        // Each LAYING takes a CARD from the HAND at least, so there are no more of them than CARDS.
        for (int i = 0; i < CARDS && !game.over; i++) {
            long beside = game.hasOpened(game.turn) ? game.lying : 0L;
            long part = walk.bestPart(beside, game.handOf(game.turn), aim);
            if (part <= 0 || tryLaying(part) != FINE) {
                break;
            }
            carryOut(part);
            laid += Long.bitCount(part);
        }
        return laid;
    }

    /** What holds of CARDS and SETS of them by their numbers alone. */
    private static final class Card {
        static boolean isSet(long set) {
            return set >>> CARDS == 0;
        }

        static int worthOfNumber(int number) {
            return Math.min(number + 1, 10);
        }

        static int worthOfSet(long set) {
            int sum = 20 * jokersIn(set);
            for (int number = 0; number < NUMBERS; number++) {
                sum += worthOfNumber(number) * Integer.bitCount(coloursOf(set, number));
            }
            return sum;
        }

        static int jokersIn(long set) {
            return Long.bitCount(set >>> NUMBERED);
        }

        /** The COLOURS, as bits, that a SET has of a number (from 0). */
        static int coloursOf(long set, int number) {
            return (int) (set >>> (COLOURS * number)) & ALL_COLOURS;
        }
    }

    /**
     * A STEP gives the four CARDS of one NUMBER their PLACES: the COLOURS in a GROUP (bits 0 to 3),
     * at the beginning of a RUN (bits 4 to 7), further on in one (bits 8 to 11), and SHOWN (bits 12 to 15).
     * A STATE behind a step tells for each COLOUR how long its open RUN is, 0 to 3 (3: or longer):
     * the low bits of these lengths (bits 0 to 3), then their high bits (bits 4 to 7).
     */
    private static final class Step {
        /** All steps, ordered by the PLACES of the CARDS, the first COLOUR weighing most. */
        static int[] allInOrder() {
            int[] steps = new int[STEPS];
            int count = 0;
            for (int code = 0; code < STATES; code++) {
                int step = fromPlaces(code);
                int group = Integer.bitCount(grouped(step));
                if ((group == 0 || group >= 3) && count < STEPS) {
                    steps[count] = step;
                    count++;
                }
            }
            return steps;
        }

        private static int fromPlaces(int code) {
            int step = 0;
            for (int colour = 0; colour < COLOURS; colour++) {
                int place = (code >> (2 * (COLOURS - 1 - colour))) & 3;
                if (place != 0) {
                    step |= 1 << (COLOURS * (place - 1) + colour) | 1 << (3 * COLOURS + colour);
                }
            }
            return step;
        }

        static int grouped(int step) {
            return step & ALL_COLOURS;
        }

        static int begun(int step) {
            return (step >> COLOURS) & ALL_COLOURS;
        }

        static int continued(int step) {
            return (step >> (2 * COLOURS)) & ALL_COLOURS;
        }

        static int shown(int step) {
            return (step >> (3 * COLOURS)) & ALL_COLOURS;
        }

        static int placeOf(int step, int colour) {
            if (((grouped(step) >> colour) & 1) != 0) {
                return 1;
            }
            if (((begun(step) >> colour) & 1) != 0) {
                return 2;
            }
            return ((continued(step) >> colour) & 1) != 0 ? 3 : 0;
        }

        /** Whether just these COLOURS can go on: a RUN of 1 or 2 must, and only an open RUN can. */
        static boolean canContinue(int state, int colours) {
            int low = state & ALL_COLOURS;
            int high = (state >> COLOURS) & ALL_COLOURS;
            return ((low ^ high) & ~colours) == 0 && (colours & ~(low | high)) == 0;
        }

        /** The state behind a step whose COLOURS can go on. */
        static int stateAfter(int state, int step) {
            int on = continued(step);
            return begun(step) | (on & (state >> COLOURS)) | (on << COLOURS);
        }

        /** Whether no RUN is still too short, so that all may end here. */
        static boolean mayEnd(int state) {
            return (state & ALL_COLOURS) == ((state >> COLOURS) & ALL_COLOURS);
        }
    }

    /**
     * What the walk knows ahead of one NUMBER: a cell for each state and count of JOKERS used so far, 0
     * if it can't be reached. Few states are, as a rule, so they are listed.
     */
    private static final class Row {
        private final long[] cells = new long[STATES * JOKER_COUNTS];
        private final boolean[] listed = new boolean[STATES];
        private final int[] states = new int[STATES];
        private int count;

        void clear() {
            for (int i = 0; i < count; i++) {
                int state = states[i];
                listed[state] = false;
                for (int used = 0; used < JOKER_COUNTS; used++) {
                    cells[state * JOKER_COUNTS + used] = 0;
                }
            }
            count = 0;
        }

        private static boolean isCell(int state, int used) {
            return state >= 0 && state < STATES && used >= 0 && used < JOKER_COUNTS;
        }

        long at(int state, int used) {
            return isCell(state, used) ? cells[state * JOKER_COUNTS + used] : 0L;
        }

        void put(int state, int used, long value) {
            if (!isCell(state, used)) {
                return;
            }
            if (!listed[state] && count < STATES) {
                listed[state] = true;
                states[count] = state;
                count++;
            }
            cells[state * JOKER_COUNTS + used] = value;
        }
    }

    /**
     * One walk over the NUMBERS. A cell that is reached holds in how many ways, or the greatest KEY. A KEY
     * has the value of the CARDS taken above bit 52, then a bit for each CARD taken, CARD 0 the highest,
     * then 1: so of two parts the better one has the greater KEY.
     */
    private static final class Walk {
        private static final int VALUE_SHIFT = NUMBERED + 1;

        private final int[] steps = new int[STEPS];
        private final int[] fitting = new int[STEPS];
        private final int[] firstFit = new int[ALL_COLOURS + 2];
        private final long[] gains = new long[STEPS * JOKER_COUNTS];
        private int fits;
        private Row here = new Row();
        private Row there = new Row();
        private long must;
        private long may;
        private int jokers;
        private boolean counting;
        private boolean byWorth;
        private int unit;

        /** Takes the steps in the order of the COLOURS that go on, so that those a state allows lie together. */
        Walk(int[] stepsInOrder) {
            int count = 0;
            for (int on = 0; on <= ALL_COLOURS; on++) {
                for (int i = 0; i < stepsInOrder.length && count < STEPS; i++) {
                    if (Step.continued(stepsInOrder[i]) == on) {
                        steps[count] = stepsInOrder[i];
                        count++;
                    }
                }
            }
        }

        long countLayouts(long set) {
            must = set;
            may = 0;
            counting = true;
            int all = Card.jokersIn(set);
            goThrough(all);
            long sum = 0;
            for (int i = 0; i < here.count; i++) {
                if (Step.mayEnd(here.states[i])) {
                    sum += here.at(here.states[i], all);
                }
            }
            return sum;
        }

        /** The BEST part of what may be laid, or NONE. */
        long bestPart(long mustBeLaid, long mayBeLaid, int aim) {
            must = mustBeLaid;
            may = mayBeLaid;
            counting = false;
            byWorth = aim == 1;
            int least = Card.jokersIn(must);
            int most = Math.min(least + Card.jokersIn(may), MOST_JOKERS);
            goThrough(most);
            long bestKey = 0;
            int added = 0;
            for (int used = least; used <= most; used++) {
                long key = greatestAtEnd(used);
                if (key != 0) {
                    key += (long) (used - least) * (byWorth ? 20 : 1) << VALUE_SHIFT;
                    if (key > bestKey) {
                        bestKey = key;
                        added = used - least;
                    }
                }
            }
            return bestKey == 0 ? NONE : cardsOfKey(bestKey) | firstJokers(added);
        }

        private long greatestAtEnd(int used) {
            long key = 0;
            for (int i = 0; i < here.count; i++) {
                if (Step.mayEnd(here.states[i])) {
                    key = Math.max(key, here.at(here.states[i], used));
                }
            }
            return key;
        }

        private long cardsOfKey(long key) {
            long cards = 0;
            for (int card = 0; card < NUMBERED; card++) {
                cards |= ((key >>> (NUMBERED - card)) & 1L) << card;
            }
            return cards;
        }

        private long firstJokers(int many) {
            long taken = 0;
            int left = many;
            for (int card = NUMBERED; card < CARDS && left > 0; card++) {
                if (((may >>> card) & 1L) != 0) {
                    taken |= 1L << card;
                    left--;
                }
            }
            return taken;
        }

        private void goThrough(int mostJokers) {
            jokers = Math.min(mostJokers, MOST_JOKERS);
            here.clear();
            here.put(0, 0, 1);
            for (int number = 0; number < NUMBERS; number++) {
                gatherFitting(number);
                there.clear();
                for (int i = 0; i < here.count; i++) {
                    goOnFrom(here.states[i]);
                }
                Row old = here;
                here = there;
                there = old;
            }
        }

        private void goOnFrom(int state) {
            for (int on = 0; on <= ALL_COLOURS; on++) {
                if (Step.canContinue(state, on)) {
                    for (int i = firstFit[on]; i < firstFit[on + 1]; i++) {
                        carry(state, Step.stateAfter(state, fitting[i]), i);
                    }
                }
            }
        }

        private void carry(int state, int next, int fit) {
            for (int used = 0; used <= jokers; used++) {
                long value = here.at(state, used);
                for (int more = 0; value != 0 && used + more <= jokers; more++) {
                    long gain = gains[fit * JOKER_COUNTS + more];
                    if (gain >= 0) {
                        long old = there.at(next, used + more);
                        there.put(next, used + more, counting ? old + value : Math.max(old, value + gain));
                    }
                }
            }
        }

        /** The steps that show all that must be laid of the number, with so many JOKERS as there are. */
        private void gatherFitting(int number) {
            int needed = Card.coloursOf(must, number);
            int free = Card.coloursOf(may, number);
            unit = byWorth ? Card.worthOfNumber(number) : 1;
            fits = 0;
            for (int i = 0; i < STEPS; i++) {
                int shown = Step.shown(steps[i]);
                int missing = Integer.bitCount(shown & ~(needed | free));
                if ((needed & ~shown) == 0 && missing <= jokers) {
                    fitting[fits] = steps[i];
                    setGains(number, missing, shown & free);
                    fits++;
                }
                firstFit[Step.continued(steps[i]) + 1] = fits;
            }
        }

        /** JOKERS beyond those for what is missing take the place of the last CARDS, so that the first are laid. */
        private void setGains(int number, int missing, int optional) {
            int taken = optional;
            boolean can = true;
            for (int used = 0; used < JOKER_COUNTS; used++) {
                int at = fits * JOKER_COUNTS + used;
                if (used < missing || !can) {
                    gains[at] = NONE;
                } else {
                    gains[at] = gainOf(number, taken);
                    can = taken != 0;
                    taken = withoutLast(taken);
                }
            }
        }

        private long gainOf(int number, int colours) {
            long gain = (long) unit * Integer.bitCount(colours) << VALUE_SHIFT;
            for (int colour = 0; colour < COLOURS; colour++) {
                if (((colours >> colour) & 1) != 0) {
                    gain |= 1L << (NUMBERED - COLOURS * number - colour);
                }
            }
            return gain;
        }

        private static int withoutLast(int colours) {
            for (int colour = COLOURS - 1; colour >= 0; colour--) {
                if (((colours >> colour) & 1) != 0) {
                    return colours & ~(1 << colour);
                }
            }
            return 0;
        }
    }

    /** Looks for the first LAYOUT of a SET: least PLACES first, and never twice from where there is none. */
    private static final class Search {
        private static final int WORD_BITS = 64;

        private final int[] steps;
        private final long[] hopeless = new long[NUMBERS * JOKER_COUNTS * STATES / WORD_BITS];
        private long set;

        Search(int[] steps) {
            this.steps = steps;
        }

        /** Whether there is a LAYOUT; only then the target holds it. */
        boolean findFirst(long wanted, Layout target) {
            set = wanted;
            Arrays.fill(hopeless, 0L);
            if (!reachesEnd(0, 0, Card.jokersIn(wanted), target)) {
                return false;
            }
            target.own = wanted;
            return true;
        }

        private boolean reachesEnd(int number, int state, int jokers, Layout target) {
            if (jokers < 0 || jokers > MOST_JOKERS || state < 0 || state >= STATES) {
                return false;
            }
            if (number < 0 || number >= NUMBERS) {
                return number == NUMBERS && jokers == 0 && Step.mayEnd(state);
            }
            int mark = (number * JOKER_COUNTS + jokers) * STATES + state;
            if (((hopeless[mark / WORD_BITS] >>> (mark % WORD_BITS)) & 1L) != 0) {
                return false;
            }
            int needed = Card.coloursOf(set, number);
            for (int i = 0; i < steps.length; i++) {
                int shown = Step.shown(steps[i]);
                if ((needed & ~shown) == 0 && Step.canContinue(state, Step.continued(steps[i]))) {
                    int left = jokers - Integer.bitCount(shown & ~needed);
                    if (left >= 0 && reachesEnd(number + 1, Step.stateAfter(state, steps[i]), left, target)) {
                        target.steps[number] = steps[i];
                        return true;
                    }
                }
            }
            hopeless[mark / WORD_BITS] |= 1L << (mark % WORD_BITS);
            return false;
        }
    }

    /** A LAYOUT: a step for each NUMBER, and the SET that it is of. */
    private static final class Layout {
        private final int[] steps = new int[NUMBERS];
        private long own;

        int placeOf(int card) {
            if (card < 0 || card >= NUMBERED) {
                return NONE;
            }
            return Step.placeOf(steps[card / COLOURS], card % COLOURS);
        }

        int jokerFor(int card) {
            if (card < 0 || card >= NUMBERED) {
                return NONE;
            }
            return placeOf(card) != 0 && ((own >>> card) & 1L) == 0 ? 1 : 0;
        }

        int groups() {
            int count = 0;
            for (int step : steps) {
                if (Step.grouped(step) != 0) {
                    count++;
                }
            }
            return count;
        }

        int runs() {
            int count = 0;
            for (int step : steps) {
                count += Integer.bitCount(Step.begun(step));
            }
            return count;
        }

        int shownCards() {
            int count = 0;
            for (int step : steps) {
                count += Integer.bitCount(Step.shown(step));
            }
            return count;
        }

        int shownWorth() {
            int sum = 0;
            for (int number = 0; number < NUMBERS; number++) {
                sum += Card.worthOfNumber(number) * Integer.bitCount(Step.shown(steps[number]));
            }
            return sum;
        }

        int longestRun() {
            int longest = 0;
            for (int colour = 0; colour < COLOURS; colour++) {
                int length = 0;
                for (int number = 0; number < NUMBERS; number++) {
                    int at = Step.placeOf(steps[number], colour);
                    length = at == 3 ? length + 1 : at == 2 ? 1 : 0;
                    longest = Math.max(longest, length);
                }
            }
            return longest;
        }
    }

    /** A GAME: who holds what, what lies, and whose TURN it is; what may be laid is asked elsewhere. */
    private static final class Game {
        private static final int MODULUS = 2147483647;
        private static final long FACTOR = 48271L;

        private final long[] hands = new long[MOST_PLAYERS];
        private final boolean[] opened = new boolean[MOST_PLAYERS];
        private final int[] pack = new int[CARDS];
        private int players;
        private int top;
        private long lying;
        private int turn;
        private int turnsEnded;
        private int layings;
        private int idleTurns;
        private boolean over;
        private int winner;

        void begin(int playersNow, int many, int seed) {
            shuffle(seed);
            players = Math.min(playersNow, MOST_PLAYERS);
            top = 0;
            for (int player = 0; player < MOST_PLAYERS; player++) {
                opened[player] = false;
                hands[player] = 0;
                for (int i = 0; i < many && player < players; i++) {
                    hands[player] |= bitOf(drawn());
                }
            }
            lying = 0;
            turn = 0;
            turnsEnded = 0;
            layings = 0;
            idleTurns = 0;
            over = false;
            winner = NONE;
        }

        private void shuffle(int seed) {
            for (int i = 0; i < CARDS; i++) {
                pack[i] = i;
            }
            long s = seed;
            for (int i = CARDS - 1; i >= 1; i--) {
                s = FACTOR * s % MODULUS;
                int j = (int) (s % (i + 1));
                int card = pack[i];
                pack[i] = pack[j];
                pack[j] = card;
            }
        }

        private int drawn() {
            if (top < 0 || top >= CARDS) {
                return NO_CARD;
            }
            int card = pack[top];
            top++;
            return card;
        }

        private static long bitOf(int card) {
            return card >= 0 && card < CARDS ? 1L << card : 0L;
        }

        boolean isDealt() {
            return players > 0;
        }

        boolean has(int player) {
            return player >= 0 && player < players && player < MOST_PLAYERS;
        }

        long handOf(int player) {
            return has(player) ? hands[player] : 0L;
        }

        boolean hasOpened(int player) {
            return has(player) && opened[player];
        }

        int fact(int what) {
            switch (what) {
                case 0:
                    return turn;
                case 1:
                    return CARDS - top;
                case 2:
                    return over ? 1 : 0;
                case 3:
                    return winner;
                case 4:
                    return turnsEnded;
                case 5:
                    return layings;
                default:
                    return players;
            }
        }

        void putDown(long cards) {
            if (!has(turn)) {
                return;
            }
            hands[turn] &= ~cards;
            opened[turn] = true;
            lying |= cards;
            layings++;
            if (hands[turn] == 0) {
                over = true;
                winner = turn;
            }
        }

        /** The CARD that came to the HAND, or NO_CARD. */
        int endTurn() {
            int card = layings == 0 ? drawn() : NO_CARD;
            if (has(turn)) {
                hands[turn] |= bitOf(card);
            }
            idleTurns = layings == 0 && card == NO_CARD ? idleTurns + 1 : 0;
            over = idleTurns >= players;
            turnsEnded++;
            layings = 0;
            turn = turn + 1 < players ? turn + 1 : 0;
            return card;
        }
    }
}
