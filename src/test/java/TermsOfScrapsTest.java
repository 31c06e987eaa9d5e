/** What the document's Terms say of scraps, sentence by sentence, at the edges. */
public final class TermsOfScrapsTest {
    /** Stripes of unlike shades and counts. */
    private static final int[] TOLD = {0, 10, 1, 20, 2, 30, 3, 40, 4, 50};

    private final Due due = new Due();

    public static void main(String[] args) {
        TermsOfScrapsTest test = new TermsOfScrapsTest();
        test.fromEveryStripeInBothDirections();
        test.innerCountsAreExact();
        test.endsAreTorn();
        test.endsAreNotLonger();
        test.byShades();
        test.oneStripe();
        test.twoStripes();
        test.roundAndRound();
        test.sixteenOfTwo();
        test.mirroredRounds();
        test.oneDirectionOnly();
        test.tornAtThisBeginningAlone();
        test.countsOfSetts();
        test.emptyAndFullRow();
        test.due.end();
    }

    private static Settbook book(boolean isMirrored, int... told) {
        Settbook book = Due.bookOfShades(6);
        Due.sett(book, isMirrored, told);
        return book;
    }

    private void fit(String name, boolean want, Settbook book, int... row) {
        Due.tell(book, row);
        due.is(name + " fits", want, () -> book.fits(0));
        due.is(name + " is counted", want ? 1 : 0, () -> book.countFits());
    }

    private static int[] changed(int[] row, int place, int by) {
        int[] other = row.clone();
        other[place] += by;
        return other;
    }

    private void fromEveryStripeInBothDirections() {
        Round round = Round.of(false, TOLD);
        for (int length = 1; length <= 16; length++) {
            Settbook book = book(false, TOLD);
            for (int begin = 0; begin < 5; begin++) {
                fit(length + " from " + begin, true, book, round.turn(begin, 1, length));
                fit(length + " from " + begin + ", back", true, book, round.turn(begin, -1, length));
            }
        }
    }

    private void innerCountsAreExact() {
        Round round = Round.of(false, TOLD);
        for (int length = 3; length <= 16; length++) {
            for (int step = -1; step <= 1; step += 2) {
                Settbook book = book(false, TOLD);
                int[] row = round.turn(length, step, length);
                for (int place = 1; place < length - 1; place++) {
                    fit("one less at " + place + " of " + length, false, book, changed(row, 2 * place + 1, -1));
                    fit("one more at " + place + " of " + length, false, book, changed(row, 2 * place + 1, 1));
                    book = book(false, TOLD);
                }
            }
        }
    }

    private void endsAreTorn() {
        Round round = Round.of(false, TOLD);
        for (int length = 1; length <= 16; length++) {
            for (int step = -1; step <= 1; step += 2) {
                Settbook book = book(false, TOLD);
                int[] row = round.turn(length, step, length);
                int last = 2 * length - 1;
                fit("first one less of " + length, true, book, changed(row, 1, -1));
                fit("last one less of " + length, true, book, changed(row, last, -1));
                fit("first one of " + length, true, book, changed(row, 1, 1 - row[1]));
                fit("last one of " + length, true, book, changed(row, last, 1 - row[last]));
                int[] both = changed(changed(row, 1, -5), last, length == 1 ? 0 : -5);
                fit("both less of " + length, true, book, both);
            }
        }
    }

    private void endsAreNotLonger() {
        Round round = Round.of(false, TOLD);
        for (int length = 1; length <= 16; length++) {
            for (int step = -1; step <= 1; step += 2) {
                Settbook book = book(false, TOLD);
                int[] row = round.turn(length, step, length);
                int last = 2 * length - 1;
                fit("first one more of " + length, false, book, changed(row, 1, 1));
                fit("last one more of " + length, false, book, changed(row, last, 1));
                fit("first of 200 of " + length, false, book, changed(row, 1, 200 - row[1]));
                fit("last of 200 of " + length, false, book, changed(row, last, 200 - row[last]));
            }
        }
    }

    private void byShades() {
        Round round = Round.of(false, TOLD);
        for (int length = 1; length <= 16; length++) {
            for (int place = 0; place < length; place++) {
                Settbook book = book(false, TOLD);
                int[] row = round.turn(2, 1, length);
                fit("no such shade at " + place, false, book, changed(row, 2 * place, 5 - row[2 * place]));
                if (length > 2) {
                    int other = (row[2 * place] + 2) % 5;
                    fit("another shade at " + place, false, book, changed(row, 2 * place, other - row[2 * place]));
                }
            }
        }
    }

    private void oneStripe() {
        Settbook book = book(false, 0, 10, 1, 20, 0, 30, 2, 4);
        fit("one thread", true, book, 0, 1);
        fit("as many as the smaller one", true, book, 0, 10);
        fit("more than the smaller one", true, book, 0, 11);
        fit("as many as the greater one", true, book, 0, 30);
        fit("more than the greater one", false, book, 0, 31);
        fit("the most", false, book, 0, 200);
        fit("as many of the least", true, book, 2, 4);
        fit("more of the least", false, book, 2, 5);
        fit("one of another shade", false, book, 3, 1);
        Settbook greatest = book(false, 0, 200, 1, 2);
        fit("200 of 200", true, greatest, 0, 200);
        fit("199 of 200", true, greatest, 0, 199);
        fit("2 of 2", true, greatest, 1, 2);
        fit("3 of 2", false, greatest, 1, 3);
    }

    private void twoStripes() {
        Settbook book = book(false, TOLD);
        fit("both whole", true, book, 1, 20, 2, 30);
        fit("both torn", true, book, 1, 1, 2, 1);
        fit("back", true, book, 2, 1, 1, 1);
        fit("over the end", true, book, 4, 50, 0, 10);
        fit("over the end, back", true, book, 0, 10, 4, 50);
        fit("first too long", false, book, 1, 21, 2, 30);
        fit("last too long", false, book, 1, 20, 2, 31);
        fit("both too long", false, book, 1, 21, 2, 31);
        fit("not beside each other", false, book, 1, 1, 3, 1);
        fit("not beside each other at the ends", false, book, 0, 1, 3, 1);
        fit("one shade twice", false, book, 1, 1, 1, 1);
    }

    private void roundAndRound() {
        Settbook book = book(false, 0, 4, 1, 8, 2, 6);
        fit("once", true, book, 0, 4, 1, 8, 2, 6);
        fit("once and the first again", true, book, 0, 4, 1, 8, 2, 6, 0, 4);
        fit("the first torn both times", true, book, 0, 3, 1, 8, 2, 6, 0, 1);
        fit("the first too long again", false, book, 0, 4, 1, 8, 2, 6, 0, 5);
        fit("twice", true, book, 1, 8, 2, 6, 0, 4, 1, 8, 2, 6, 0, 4);
        fit("twice back", true, book, 1, 8, 0, 4, 2, 6, 1, 8, 0, 4, 2, 6);
        fit("the second time one less", false, book, 1, 8, 2, 6, 0, 4, 1, 7, 2, 6, 0, 4);
        fit("forth and back", false, book, 0, 4, 1, 8, 2, 6, 1, 8);
        Settbook two = book(false, 0, 4, 1, 8);
        fit("two gone once and a half", true, two, 0, 1, 1, 8, 0, 1);
        fit("two gone, the middle torn", false, two, 0, 1, 1, 7, 0, 1);
        fit("two gone twice", true, two, 1, 2, 0, 4, 1, 8, 0, 2);
        fit("two gone twice, an inner one torn", false, two, 1, 2, 0, 3, 1, 8, 0, 2);
    }

    private void sixteenOfTwo() {
        int[] row = Round.of(false, 0, 4, 1, 8).turn(0, 1, 16);
        fit("sixteen of two", true, book(false, 0, 4, 1, 8), row);
        fit("sixteen of two, mirrored", true, book(true, 0, 4, 1, 8), row);
        fit("begun at the other", true, book(false, 1, 8, 0, 4), row);
        fit("torn at both ends", true, book(false, 0, 4, 1, 8), changed(changed(row, 1, -3), 31, -7));
        for (int place = 1; place < 15; place++) {
            fit("torn at " + place, false, book(false, 0, 4, 1, 8), changed(row, 2 * place + 1, -1));
        }
        fit("too long at first", false, book(false, 0, 4, 1, 8), changed(row, 1, 1));
        fit("too long at last", false, book(false, 0, 4, 1, 8), changed(row, 31, 1));
    }

    private void mirroredRounds() {
        Settbook book = book(true, 0, 4, 1, 8, 2, 6);
        fit("round the last pivot", true, book, 1, 8, 2, 6, 1, 8);
        fit("round the first pivot", true, book, 1, 8, 0, 4, 1, 8);
        fit("torn beside the pivot", true, book, 1, 1, 2, 6, 1, 3);
        fit("the pivot torn", false, book, 1, 8, 2, 5, 1, 8);
        fit("the pivot twice", false, book, 1, 8, 2, 12, 1, 8);
        fit("from pivot to pivot", true, book, 2, 1, 1, 8, 0, 1);
        fit("from pivot to pivot and on", true, book, 2, 1, 1, 8, 0, 4, 1, 8, 2, 6, 1, 1);
        fit("as if it were repeated", false, book, 1, 8, 2, 6, 0, 4);
        Settbook longest = longest();
        int[] round = Round.of(true, longestTold()).turn(15, 1, 16);
        fit("sixteen of thirty", true, longest, round);
        fit("sixteen of thirty, back", true, longest, Round.of(true, longestTold()).turn(3, -1, 16));
        fit("sixteen of thirty, an inner one more", false, longest, changed(round, 29, 1));
    }

    private static int[] longestTold() {
        int[] told = new int[32];
        for (int i = 0; i < 16; i++) {
            told[2 * i] = i % 2;
            told[2 * i + 1] = 2 * i + 2;
        }
        return told;
    }

    private static Settbook longest() {
        return book(true, longestTold());
    }

    private void oneDirectionOnly() {
        Settbook book = book(false, 0, 4, 1, 8, 0, 6, 2, 10);
        fit("forth", true, book, 0, 4, 1, 8, 0, 6);
        fit("back", true, book, 0, 6, 1, 8, 0, 4);
        fit("forth with ends that are torn", true, book, 0, 3, 1, 8, 0, 6);
        fit("only back", true, book, 0, 6, 1, 8, 0, 1);
        fit("neither, both ends too long", false, book, 0, 6, 1, 8, 0, 6);
        fit("round the other one", true, book, 0, 6, 2, 10, 0, 4);
        fit("round neither", false, book, 0, 1, 1, 10, 0, 1);
    }

    private void tornAtThisBeginningAlone() {
        Settbook book = book(false, 0, 4, 1, 8, 0, 20, 1, 2);
        fit("from the second on", true, book, 1, 5, 0, 20, 1, 1);
        fit("from the fourth on", true, book, 1, 2, 0, 4, 1, 7);
        fit("from none on", false, book, 1, 3, 0, 20, 1, 3);
        fit("ends long and short", true, book, 1, 2, 0, 20, 1, 8);
        fit("all round", true, book, 0, 20, 1, 2, 0, 4, 1, 8, 0, 19);
        fit("all round, the last too long", false, book, 0, 4, 1, 8, 0, 20, 1, 2, 0, 5);
    }

    private void countsOfSetts() {
        Settbook book = Due.bookOfShades(3);
        Due.tell(book, 0, 1);
        due.is("of no setts", 0, () -> book.countFits());
        for (int i = 1; i <= 20; i++) {
            Due.sett(book, i % 2 == 0, 0, 2 * i, 1, 4);
            Due.tell(book, 0, 1);
            due.is("all of " + i, i, () -> book.countFits());
        }
        for (int count = 1; count <= 42; count++) {
            int want = Math.max(0, 21 - (count + 1) / 2);
            Due.tell(book, 0, count);
            due.is("those with " + count, want, () -> book.countFits());
        }
        Due.tell(book, 2, 1);
        due.is("none of 20", 0, () -> book.countFits());
    }

    private void emptyAndFullRow() {
        Settbook book = book(false, TOLD);
        book.clearStripes();
        due.is("fits, cleared", Due.UNSUPPORTED, () -> book.fits(0));
        due.is("countFits, cleared", Due.UNSUPPORTED, () -> book.countFits());
        Due.tell(book, 0, 1);
        due.is("fits, one stripe", true, () -> book.fits(0));
        Due.tell(book, Round.of(false, TOLD).turn(1, 1, 16));
        due.is("fits, sixteen stripes", true, () -> book.fits(0));
        due.is("a stripe more", Due.STATE, () -> book.addStripe(2, 1));
        due.is("fits still", true, () -> book.fits(0));
        due.is("the row stays", 16, () -> book.clearStripes());
        due.is("fits, cleared again", Due.UNSUPPORTED, () -> book.fits(0));
    }
}
