/** What the document's Terms say of pleats, sentence by sentence, at the edges. */
public final class TermsOfPleatsTest {
    private static final int[][] TOLD = {{0, 4, 1, 8, 2, 2}, {0, 2, 1, 2}, {0, 10, 1, 4, 2, 6}, {0, 200, 1, 38, 2, 40}};

    private final Due due = new Due();

    public static void main(String[] args) {
        TermsOfPleatsTest test = new TermsOfPleatsTest();
        test.toTheSett();
        test.toTheSettPlain();
        test.toAStripe();
        test.toAStripePlain();
        test.halfOfBothIsCut();
        test.aheadOfTheRound();
        test.stripeOfNoMeaningToTheSett();
        test.pleatOfNoMeaningToAStripe();
        test.widestAndLast();
        test.taken();
        test.due.end();
    }

    private static Settbook book(boolean isMirrored, int... told) {
        Settbook book = Due.bookOfShades(3);
        Due.sett(book, isMirrored, told);
        return book;
    }

    private static boolean isPlain(Round round, int begin, int seen) {
        for (int i = 1; i < seen; i++) {
            if (round.thread(begin + i) != round.thread(begin)) {
                return false;
            }
        }
        return true;
    }

    /** The first thread that a pleat to a stripe shows, by halves that are cut one by one. */
    private static int begin(Round round, int stripe, int seen) {
        int begin = round.firstThread(stripe);
        for (int i = 2; i <= round.count(stripe); i += 2) {
            begin++;
        }
        for (int i = 2; i <= seen; i += 2) {
            begin--;
        }
        return begin;
    }

    private void toTheSett() {
        for (int[] told : TOLD) {
            Round round = Round.of(true, told);
            for (int seen = 1; seen <= 40; seen++) {
                Settbook book = book(true, told);
                for (int pleat : new int[] {0, 1, 2, 50, 98, 99}) {
                    shades(book, round, true, 0, seen, pleat, pleat * seen);
                }
            }
        }
    }

    private void shades(Settbook book, Round round, boolean isSett, int stripe, int seen, int pleat, int begin) {
        String name = "shows " + seen + ", pleat " + pleat + ", stripe " + stripe + ", thread ";
        for (int i = 0; i < seen; i++) {
            int index = i;
            due.is(name + i, round.thread(begin + i), () -> book.pleatShade(0, isSett, stripe, seen, pleat, index));
        }
        due.is(name + seen, Due.ELEMENT, () -> book.pleatShade(0, isSett, stripe, seen, pleat, seen));
        due.is(name + "-1", Due.ELEMENT, () -> book.pleatShade(0, isSett, stripe, seen, pleat, -1));
    }

    private void toTheSettPlain() {
        for (int[] told : TOLD) {
            Round round = Round.of(false, told);
            for (int i = 1; i <= 40; i++) {
                Settbook book = book(false, told);
                int seen = i;
                for (int j = 0; j <= 99; j++) {
                    int pleat = j;
                    boolean isDue = isPlain(round, j * i, i);
                    due.is("shows " + i + ", plain " + j, isDue, () -> book.isPlain(0, true, 0, seen, pleat));
                }
            }
        }
    }

    private void toAStripe() {
        for (int[] told : TOLD) {
            Round round = Round.of(true, told);
            for (int seen = 1; seen <= 40; seen++) {
                Settbook book = book(true, told);
                for (int stripe = 0; stripe < round.size; stripe++) {
                    shades(book, round, false, stripe, seen, 7, begin(round, stripe, seen));
                }
            }
        }
    }

    private void toAStripePlain() {
        for (int[] told : TOLD) {
            for (boolean isMirrored : new boolean[] {true, false}) {
                Round round = Round.of(isMirrored, told);
                for (int i = 1; i <= 40; i++) {
                    Settbook book = book(isMirrored, told);
                    int seen = i;
                    for (int j = 0; j < round.size; j++) {
                        int stripe = j;
                        boolean isDue = isPlain(round, begin(round, j, i), i);
                        due.is("shows " + i + " of " + j, isDue, () -> book.isPlain(0, false, stripe, seen, 0));
                    }
                    due.is("none behind", Due.ELEMENT, () -> book.isPlain(0, false, round.size, seen, 0));
                    due.is("none ahead", Due.ELEMENT, () -> book.isPlain(0, false, -1, seen, 0));
                }
            }
        }
    }

    /** Stripe 1 has the threads from 10 to 15, and its middle one is 13. */
    private void halfOfBothIsCut() {
        Settbook book = book(false, 0, 10, 1, 6, 2, 8);
        int[] firstOf = {1, 1, 1, 1, 1, 1, 1, 0, 0, 0};
        int[] lastOf = {1, 1, 1, 1, 1, 1, 2, 2, 2, 2};
        for (int i = 0; i < 10; i++) {
            int seen = i + 1;
            due.is("first of " + seen, firstOf[i], () -> book.pleatShade(0, false, 1, seen, 0, 0));
            due.is("last of " + seen, lastOf[i], () -> book.pleatShade(0, false, 1, seen, 0, seen - 1));
            due.is("plain " + seen, seen <= 6, () -> book.isPlain(0, false, 1, seen, 0));
        }
        Settbook odd = book(false, 0, 6, 1, 10, 2, 2);
        due.is("half of 6 is 3, shows one", 0, () -> odd.pleatShade(0, false, 0, 1, 0, 0));
        due.is("from 3 on, 3 are of it", 0, () -> odd.pleatShade(0, false, 0, 5, 0, 4));
        due.is("from 0 on of 7", 1, () -> odd.pleatShade(0, false, 0, 7, 0, 6));
        due.is("from 0 on of 6", true, () -> odd.isPlain(0, false, 0, 6, 0));
        due.is("half of 2 is 1", 2, () -> odd.pleatShade(0, false, 2, 2, 0, 0));
        due.is("half of 2 less 1", 1, () -> odd.pleatShade(0, false, 2, 4, 0, 0));
    }

    /** In a round of 4 threads 40 of them begin 19 ahead of it. */
    private void aheadOfTheRound() {
        Settbook book = book(false, 0, 2, 1, 2);
        int[] shades = {1, 1, 0, 0};
        for (int seen = 1; seen <= 40; seen++) {
            int number = seen;
            int begin = 1 - seen / 2;
            int want = shades[Math.floorMod(begin + 2, 4)];
            due.is("first of " + seen, want, () -> book.pleatShade(0, false, 0, number, 0, 0));
        }
        due.is("0 ahead", 0, () -> book.pleatShade(0, false, 0, 3, 0, 0));
        due.is("1 ahead", 1, () -> book.pleatShade(0, false, 0, 4, 0, 0));
        due.is("2 ahead", 1, () -> book.pleatShade(0, false, 0, 6, 0, 0));
        due.is("3 ahead", 0, () -> book.pleatShade(0, false, 0, 8, 0, 0));
        due.is("4 ahead", 0, () -> book.pleatShade(0, false, 0, 10, 0, 0));
        due.is("5 ahead", 1, () -> book.pleatShade(0, false, 0, 12, 0, 0));
        due.is("19 ahead", 0, () -> book.pleatShade(0, false, 0, 40, 0, 0));
        due.is("18 ahead", 1, () -> book.pleatShade(0, false, 0, 40, 0, 1));
        due.is("20 behind", 0, () -> book.pleatShade(0, false, 0, 40, 0, 39));
        due.is("last stripe, behind the round", 0, () -> book.pleatShade(0, false, 1, 3, 0, 2));
    }

    private void stripeOfNoMeaningToTheSett() {
        Settbook book = book(true, 0, 4, 1, 8, 2, 2);
        for (int stripe : new int[] {0, 3, 4, -1, 99, Integer.MIN_VALUE, Integer.MAX_VALUE}) {
            due.is("stripe " + stripe, 1, () -> book.pleatShade(0, true, stripe, 4, 1, 0));
            due.is("plain, stripe " + stripe, true, () -> book.isPlain(0, true, stripe, 4, 1));
            due.is("not plain, stripe " + stripe, false, () -> book.isPlain(0, true, stripe, 5, 0));
        }
    }

    private void pleatOfNoMeaningToAStripe() {
        Settbook book = book(true, 0, 4, 1, 8, 2, 2);
        for (int i = 0; i <= 99; i++) {
            int pleat = i;
            due.is("pleat " + i, 1, () -> book.pleatShade(0, false, 1, 4, pleat, 0));
            due.is("plain pleat " + i, true, () -> book.isPlain(0, false, 1, 8, pleat));
            due.is("plain pleat " + i + " not", false, () -> book.isPlain(0, false, 1, 9, pleat));
        }
    }

    /** The last pleat of the widest begins with thread 3960. */
    private void widestAndLast() {
        Settbook book = book(false, 0, 200, 1, 200, 0, 200, 1, 200, 0, 200, 1, 200);
        due.is("first", 1, () -> book.pleatShade(0, true, 0, 40, 99, 0));
        due.is("last", 1, () -> book.pleatShade(0, true, 0, 40, 99, 39));
        due.is("plain", true, () -> book.isPlain(0, true, 0, 40, 99));
        due.is("not plain", false, () -> book.isPlain(0, true, 0, 39, 97));
        due.is("thread 3783", 0, () -> book.pleatShade(0, true, 0, 39, 97, 0));
        due.is("thread 3800", 1, () -> book.pleatShade(0, true, 0, 39, 97, 17));
        due.is("a pleat more", Due.ARGUMENT, () -> book.pleatShade(0, true, 0, 40, 100, 0));
        due.is("a thread more", Due.ARGUMENT, () -> book.pleatShade(0, true, 0, 41, 99, 0));
        due.is("behind the widest", Due.ELEMENT, () -> book.pleatShade(0, true, 0, 40, 99, 40));
    }

    private void taken() {
        for (int[] told : TOLD) {
            int threads = Round.of(true, told).threads.length;
            for (int i = 1; i <= 40; i++) {
                Settbook book = book(true, told);
                int seen = i;
                for (int j = 1; j <= 100; j++) {
                    int pleats = j;
                    String name = j + " of " + i;
                    due.is(name + " to the sett", j * (threads + i), () -> book.threadsUsed(0, true, seen, pleats));
                    due.is(name + " to a stripe", j * threads, () -> book.threadsUsed(0, false, seen, pleats));
                }
            }
        }
    }
}
