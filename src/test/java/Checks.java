/** Counts and prints answers that are not the ones due. */
final class Checks {
    private int wrong = 0;
    private int asked = 0;

    void due(String call, long want, long got) {
        asked++;
        if (want != got) {
            wrong++;
            if (wrong <= 50) {
                System.out.println(call + " answered " + got + ", due is " + want);
            }
        }
    }

    void due(String call, boolean want, boolean got) {
        due(call, want ? 1 : 0, got ? 1 : 0);
    }

    /** What tell answers to 0 and on. */
    void told(String when, RummyTable x, int... want) {
        for (int what = 0; what < want.length; what++) {
            due(when + ": tell(" + what + ")", want[what], x.tell(what));
            due(when + ": status of tell(" + what + ")", 0, x.status());
        }
    }

    /** Prints the sum and leaves with exit code 1 if an answer was wrong. */
    void finish() {
        System.out.println(asked + " answers asked, " + wrong + " not as due");
        if (wrong != 0) {
            System.exit(1);
        }
    }

    /** A SET from cards written as NUMBER and colour letter (a to d), "J" and "K" for the JOKERS 52 and 53. */
    static long set(String cards) {
        long set = 0;
        for (String word : cards.trim().split("\\s+")) {
            if (!word.isEmpty()) {
                set |= 1L << card(word);
            }
        }
        return set;
    }

    static int card(String word) {
        if (word.equals("J")) {
            return 52;
        }
        if (word.equals("K")) {
            return 53;
        }
        int colour = "abcd".indexOf(word.charAt(word.length() - 1));
        int number = Integer.parseInt(word.substring(0, word.length() - 1));
        return (number - 1) * 4 + colour;
    }
}
