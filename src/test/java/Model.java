import java.util.ArrayList;
import java.util.HashMap;
import java.util.List;
import java.util.Map;

/**
 * The document once more, as plainly as it can be: every LAYOUT is tried, meld by meld. It shares
 * nothing with the class that it is compared with.
 */
final class Model {
    private static final int NONE = -1;

    /** The melds whose least CARD is the index, each as the list of its CARDS; groups first. */
    private static final List<List<int[]>> MELDS = allMelds();

    int status = 0;
    private int opening = 30;
    private int[] places = new int[52];
    private long own = 0;

    private int players = 0;
    private List<Integer> stock = new ArrayList<>();
    private long[] hands = new long[4];
    private boolean[] opened = new boolean[4];
    private long table;
    private int plays;
    private boolean over;
    private int won;
    private int turns;
    private int layings;
    private int idle;

    private static List<List<int[]>> allMelds() {
        List<List<int[]>> melds = new ArrayList<>();
        for (int card = 0; card < 52; card++) {
            melds.add(new ArrayList<>());
        }
        for (int number = 0; number < 13; number++) {
            int c = 4 * number;
            melds.get(c).add(new int[] {c, c + 1, c + 2});
            melds.get(c).add(new int[] {c, c + 1, c + 3});
            melds.get(c).add(new int[] {c, c + 2, c + 3});
            melds.get(c + 1).add(new int[] {c + 1, c + 2, c + 3});
            melds.get(c).add(new int[] {c, c + 1, c + 2, c + 3});
        }
        for (int card = 0; card < 52; card++) {
            for (int length = 3; card + 4 * (length - 1) < 52; length++) {
                int[] run = new int[length];
                for (int i = 0; i < length; i++) {
                    run[i] = card + 4 * i;
                }
                melds.get(card).add(run);
            }
        }
        return melds;
    }

    /** What is found in all LAYOUTS behind a point: how many, the first, and the BEST part. */
    private static final class Found {
        long count = 0;
        int[] first = null;
        int value = -1;
        long part = 0;

        void offer(Found rest, int[] meld, long taken, int aim) {
            if (rest.count == 0) {
                return;
            }
            count += rest.count;
            int[] places = rest.first.clone();
            for (int i = 0; meld != null && i < meld.length; i++) {
                places[meld[i]] = meld[1] / 4 == meld[0] / 4 ? 1 : i == 0 ? 2 : 3;
            }
            if (first == null || isAhead(places, first)) {
                first = places;
            }
            int more = rest.value + (aim == 0 ? Long.bitCount(taken) : worthOf(taken));
            if (more > value || more == value && isFirst(taken | rest.part, part)) {
                value = more;
                part = taken | rest.part;
            }
        }
    }

    private record Point(int card, long covered, int jokers) { }

    /** Goes through all LAYOUTS that show all of 'must' and, besides, of 'may' or by JOKERS what they like. */
    private static final class Tries {
        final long must;
        final long may;
        final int least;
        final int most;
        final int aim;
        final Map<Point, Found> known = new HashMap<>();
        final Found all;

        Tries(long must, long may, int aim) {
            this.must = must;
            this.may = may;
            this.aim = aim;
            least = Long.bitCount(must >>> 52);
            most = least + Long.bitCount(may >>> 52);
            all = from(0, 0, 0);
        }

        /** From a card on, with the cards of melds begun before it covered, and so many jokers used. */
        private Found from(int card, long covered, int jokers) {
            if (card == 52) {
                return atEnd(jokers);
            }
            if ((covered >>> card & 1) != 0) {
                return from(card + 1, covered & ~(1L << card), jokers);
            }
            Point point = new Point(card, covered, jokers);
            Found found = known.get(point);
            if (found == null) {
                found = new Found();
                if ((must >>> card & 1) == 0) {
                    found.offer(from(card + 1, covered, jokers), null, 0, aim);
                }
                for (int[] meld : MELDS.get(card)) {
                    fill(found, meld, 0, covered, jokers, 0);
                }
                known.put(point, found);
            }
            return found;
        }

        private void fill(Found found, int[] meld, int i, long covered, int jokers, long taken) {
            if (i == meld.length) {
                found.offer(from(meld[0], covered, jokers), meld, taken, aim);
                return;
            }
            int c = meld[i];
            if ((covered >>> c & 1) != 0) {
                return;
            }
            long now = covered | 1L << c;
            if ((must >>> c & 1) != 0) {
                fill(found, meld, i + 1, now, jokers, taken);
                return;
            }
            if ((may >>> c & 1) != 0) {
                fill(found, meld, i + 1, now, jokers, taken | 1L << c);
            }
            if (jokers < most) {
                fill(found, meld, i + 1, now, jokers + 1, taken);
            }
        }

        private Found atEnd(int jokers) {
            Found found = new Found();
            if (jokers < least) {
                return found;
            }
            found.count = 1;
            found.first = new int[52];
            int more = jokers - least;
            for (int c = 52; c < 54 && more > 0; c++) {
                if ((may >>> c & 1) != 0) {
                    found.part |= 1L << c;
                    more--;
                }
            }
            found.value = aim == 0 ? Long.bitCount(found.part) : worthOf(found.part);
            return found;
        }
    }

    private static boolean isAhead(int[] a, int[] b) {
        for (int c = 0; c < 52; c++) {
            if (a[c] != b[c]) {
                return a[c] < b[c];
            }
        }
        return false;
    }

    private static boolean isFirst(long a, long b) {
        for (int c = 0; c < 54; c++) {
            if ((a >>> c & 1) != (b >>> c & 1)) {
                return (a >>> c & 1) != 0;
            }
        }
        return false;
    }

    private static int cardWorth(int card) {
        return card >= 52 ? 20 : Math.min(10, card / 4 + 1);
    }

    static int worthOf(long set) {
        int sum = 0;
        for (int c = 0; c < 54; c++) {
            sum += (set >>> c & 1) != 0 ? cardWorth(c) : 0;
        }
        return sum;
    }

    private static Found layoutsOf(long set) {
        return new Tries(set, 0, 0).all;
    }

    static boolean isSet(long set) {
        return set >= 0 && set < 1L << 54;
    }

    private int no(int reason) {
        status = reason;
        return NONE;
    }

    private void keep(long set, int[] first) {
        places = first;
        own = set;
    }

    long ways(long set) {
        if (!isSet(set)) {
            return no(1);
        }
        status = 0;
        return layoutsOf(set).count;
    }

    int layout(long set) {
        if (!isSet(set)) {
            return no(1);
        }
        int[] first = layoutsOf(set).first;
        if (first == null) {
            return no(3);
        }
        keep(set, first);
        status = 0;
        return shows(0) + shows(1);
    }

    long best(long must, long may, int aim) {
        if (!isSet(must) || !isSet(may) || aim < 0 || aim > 1) {
            return no(1);
        }
        if ((must & may) != 0) {
            return no(2);
        }
        Found found = new Tries(must, may, aim).all;
        if (found.count == 0) {
            return no(3);
        }
        layout(must | found.part);
        return found.part;
    }

    int place(int card) {
        return card < 0 || card >= 52 ? NONE : places[card];
    }

    int stands(int card) {
        return card < 0 || card >= 52 ? NONE : places[card] != 0 && (own >>> card & 1) == 0 ? 1 : 0;
    }

    int shows(int what) {
        int[] sums = new int[6];
        for (int c = 0; c < 52; c++) {
            if (places[c] == 1 && (c % 4 == 0 || c % 4 == 1 && places[c - 1] != 1)) {
                sums[0]++;
            }
            if (places[c] == 2) {
                sums[1]++;
                int length = 1;
                while (c + 4 * length < 52 && places[c + 4 * length] == 3) {
                    length++;
                }
                sums[5] = Math.max(sums[5], length);
            }
            if (places[c] != 0) {
                sums[2]++;
                sums[3] += stands(c);
                sums[4] += cardWorth(c);
            }
        }
        return what < 0 || what > 5 ? NONE : sums[what];
    }

    int worth(long set) {
        if (!isSet(set)) {
            return no(1);
        }
        status = 0;
        return worthOf(set);
    }

    boolean opening(int worth) {
        status = worth < 0 || worth > 200 ? 1 : 0;
        if (status == 0) {
            opening = worth;
        }
        return status == 0;
    }

    boolean deal(int many, int each, int seed) {
        if (many < 2 || many > 4 || each < 1 || each > 13 || seed < 1 || seed > 2147483646) {
            status = 1;
            return false;
        }
        stock = new ArrayList<>();
        for (int i = 0; i < 54; i++) {
            stock.add(i);
        }
        long s = seed;
        for (int i = 53; i >= 1; i--) {
            s = s * 48271 % 2147483647;
            int j = (int) (s % (i + 1));
            Integer card = stock.get(i);
            stock.set(i, stock.get(j));
            stock.set(j, card);
        }
        players = many;
        hands = new long[4];
        opened = new boolean[4];
        for (int p = 0; p < many; p++) {
            for (int i = 0; i < each; i++) {
                hands[p] |= 1L << stock.remove(0);
            }
        }
        table = 0;
        plays = 0;
        over = false;
        won = NONE;
        turns = 0;
        layings = 0;
        idle = 0;
        status = 0;
        return true;
    }

    long hand(int player) {
        if (player < 0 || player > 3) {
            return no(1);
        }
        if (players == 0) {
            return no(4);
        }
        if (player >= players) {
            return no(1);
        }
        status = 0;
        return hands[player];
    }

    long table() {
        if (players == 0) {
            return no(4);
        }
        status = 0;
        return table;
    }

    int tell(int what) {
        if (what < 0 || what > 6) {
            return no(1);
        }
        if (players == 0) {
            return no(4);
        }
        status = 0;
        return new int[] {plays, stock.size(), over ? 1 : 0, won, turns, layings, players}[what];
    }

    int player(int player, int what) {
        if (what < 0 || what > 2) {
            return no(1);
        }
        if (players == 0) {
            return no(4);
        }
        if (player < 0 || player >= players) {
            return no(1);
        }
        status = 0;
        return new int[] {opened[player] ? 1 : 0, Long.bitCount(hands[player]), worthOf(hands[player])}[what];
    }

    int lay(long cards) {
        if (!isSet(cards) || cards == 0) {
            return no(1);
        }
        if (players == 0) {
            return no(4);
        }
        if (over) {
            return no(5);
        }
        if ((cards & hands[plays]) != cards) {
            return no(6);
        }
        if (!opened[plays] && !mayOpen(cards)) {
            return no(7);
        }
        if (layout(table | cards) == NONE) {
            return no(3);
        }
        table |= cards;
        hands[plays] ^= cards;
        opened[plays] = true;
        layings++;
        if (hands[plays] == 0) {
            over = true;
            won = plays;
        }
        return Long.bitCount(table);
    }

    private boolean mayOpen(long cards) {
        int[] first = layoutsOf(cards).first;
        int sum = 0;
        for (int c = 0; first != null && c < 52; c++) {
            sum += first[c] != 0 ? cardWorth(c) : 0;
        }
        return first != null && sum >= opening;
    }

    int end() {
        if (players == 0) {
            return no(4);
        }
        if (over) {
            return no(5);
        }
        int card = 54;
        if (layings == 0 && !stock.isEmpty()) {
            card = stock.remove(0);
            hands[plays] |= 1L << card;
        }
        idle = layings == 0 && card == 54 ? idle + 1 : 0;
        over = idle == players;
        turns++;
        layings = 0;
        plays = (plays + 1) % players;
        status = 0;
        return card;
    }

    int robot(int aim) {
        if (aim < 0 || aim > 1) {
            return no(1);
        }
        if (players == 0) {
            return no(4);
        }
        if (over) {
            return no(5);
        }
        int laid = 0;
        while (!over) {
            long part = new Tries(opened[plays] ? table : 0, hands[plays], aim).all.part;
            if (part == 0 || lay(part) == NONE) {
                break;
            }
            laid += Long.bitCount(part);
        }
        if (!over) {
            end();
        }
        status = 0;
        return laid;
    }
}
