/** What the document's Terms say of copies, sentence by sentence, at the edges. */
public final class TermsOfCopiesTest {
    private final Due due = new Due();

    public static void main(String[] args) {
        TermsOfCopiesTest test = new TermsOfCopiesTest();
        test.atMostSixteen();
        test.stripesAsTheyWereTold();
        test.ofAllSizes();
        test.countsOf1To200();
        test.errorsAreOtherCounts();
        test.theSettStays();
        test.lowerNumbersAlone();
        test.ofThisSettAlone();
        test.likeCountsAlone();
        test.lessItsOwnErrors();
        test.ofLikeOnesTheLowest();
        test.theSettGoesAhead();
        test.allPatterns();
        test.parentsAreAskedAnew();
        test.depthOfAChain();
        test.depthOfTheFarthest();
        test.due.end();
    }

    /** Setts 0 and 1 are of the same stripes, 4, 8, 6, 10 and 2. */
    private static Settbook book(int copies) {
        Settbook book = Due.bookOfShades(5);
        Due.sett(book, true, 0, 4, 1, 8, 2, 6, 3, 10, 4, 2);
        book.makeSett(false);
        for (int i = 0; i < copies; i++) {
            book.addCopy(0);
        }
        return book;
    }

    private static void miscopy(Settbook book, int copy, int... counts) {
        for (int i = 0; i < counts.length; i++) {
            book.miscopy(copy, i, counts[i]);
        }
    }

    private void parent(String name, int want, Settbook book, int copy) {
        due.is(name + ", parent of " + copy, want, () -> book.parentOf(copy));
    }

    private void atMostSixteen() {
        Settbook book = book(0);
        for (int i = 0; i < 16; i++) {
            int number = i;
            due.is("no copy " + i + " yet", Due.INDEX, () -> book.depth(number));
            due.is("copy " + i, i, () -> book.addCopy(number % 2));
            parent("without errors", -1, book, i);
            due.is("depth of " + i, 1, () -> book.depth(number));
        }
        due.is("a 17th copy", Due.STATE, () -> book.addCopy(0));
        due.is("a 17th copy of another", Due.STATE, () -> book.addCopy(1));
        due.is("no copy 16", Due.INDEX, () -> book.miscopy(16, 0, 2));
        due.is("copy 15", 1, () -> book.miscopy(15, 0, 2));
    }

    private void stripesAsTheyWereTold() {
        Settbook book = book(1);
        int[] told = {4, 8, 6, 10, 2};
        due.is("stripes of the round", 8, () -> book.countStripes(0));
        for (int i = 0; i < 5; i++) {
            int stripe = i;
            due.is("the count of stripe " + i, 0, () -> book.miscopy(0, stripe, told[stripe]));
        }
        due.is("none behind the pivot", Due.ELEMENT, () -> book.miscopy(0, 5, 10));
        due.is("none ahead", Due.ELEMENT, () -> book.miscopy(0, -1, 4));
        for (int i = 0; i < 5; i++) {
            int stripe = i;
            due.is("another count of stripe " + i, i + 1, () -> book.miscopy(0, stripe, told[stripe] + 1));
        }
    }

    private void ofAllSizes() {
        for (int size = 2; size <= 16; size++) {
            Settbook book = Due.bookOfShades(3);
            for (int i = 0; i < size; i++) {
                book.addStripe(i == size - 1 ? 2 : i % 2, 2);
            }
            int last = size - 1;
            book.makeSett(size % 2 == 0);
            book.scale(0, 2, 1);
            book.addCopy(1);
            due.is("as scaled", 0, () -> book.miscopy(0, last, 4));
            due.is("last of " + size, 1, () -> book.miscopy(0, last, 2));
            due.is("behind the last of " + size, Due.ELEMENT, () -> book.miscopy(0, last + 1, 2));
            due.is("first of " + size, 2, () -> book.miscopy(0, 0, 2));
            for (int i = 1; i < size - 1; i++) {
                int stripe = i;
                due.is("stripe " + i + " of " + size, i + 2, () -> book.miscopy(0, stripe, 5));
            }
        }
    }

    private void countsOf1To200() {
        for (int i = -1; i <= 202; i++) {
            Settbook book = book(1);
            int count = i;
            boolean isCount = i >= 1 && i <= 200;
            Object want = !isCount ? Due.ARGUMENT : i == 6 ? 0 : (Object) 1;
            due.is("count " + i, want, () -> book.miscopy(0, 2, count));
            due.is("errors then", isCount && i != 6 ? 2 : 1, () -> book.miscopy(0, 0, 200));
        }
        Settbook book = book(1);
        due.is("least int", Due.ARGUMENT, () -> book.miscopy(0, 0, Integer.MIN_VALUE));
        due.is("greatest int", Due.ARGUMENT, () -> book.miscopy(0, 0, Integer.MAX_VALUE));
    }

    private void errorsAreOtherCounts() {
        Settbook book = book(1);
        due.is("one less", 1, () -> book.miscopy(0, 0, 3));
        due.is("one more", 1, () -> book.miscopy(0, 0, 5));
        due.is("the same stripe once more", 1, () -> book.miscopy(0, 0, 200));
        due.is("another stripe", 2, () -> book.miscopy(0, 4, 1));
        due.is("a third one", 3, () -> book.miscopy(0, 2, 1));
        due.is("mended", 2, () -> book.miscopy(0, 0, 4));
        due.is("mended once more", 2, () -> book.miscopy(0, 0, 4));
        due.is("a right one stays", 2, () -> book.miscopy(0, 1, 8));
        due.is("mended last", 1, () -> book.miscopy(0, 4, 2));
        due.is("all mended", 0, () -> book.miscopy(0, 2, 6));
    }

    private void theSettStays() {
        Settbook book = book(2);
        miscopy(book, 0, 100, 100, 100, 100, 100);
        due.is("count", 4, () -> book.getCount(0, 0));
        due.is("form", 2, () -> book.formCount(0, 4));
        due.is("threads", 54, () -> book.getThreads(0));
        due.is("the other copy", 1, () -> book.miscopy(1, 0, 100));
        due.is("a new copy", 2, () -> book.addCopy(0));
        due.is("is of the sett", 0, () -> book.miscopy(2, 0, 4));
        due.is("scaled", 2, () -> book.scale(0, 1, 1));
        due.is("is of the sett too", 54, () -> book.getThreads(2));
        due.is("the row stays", 5, () -> book.clearStripes());
    }

    private void lowerNumbersAlone() {
        Settbook book = book(3);
        for (int copy = 0; copy < 3; copy++) {
            miscopy(book, copy, 5, 5, 5);
        }
        parent("no lower one", -1, book, 0);
        parent("the one below", 0, book, 1);
        parent("not itself", 0, book, 2);
        miscopy(book, 0, 4, 8, 6);
        parent("not the one above", -1, book, 0);
        parent("nor for the middle", -1, book, 1);
        parent("the middle", 1, book, 2);
    }

    private void ofThisSettAlone() {
        Settbook book = book(0);
        int[] setts = {1, 0, 1, 0, 1};
        for (int i = 0; i < setts.length; i++) {
            book.addCopy(setts[i]);
            miscopy(book, i, 5, 5);
        }
        int[] want = {-1, -1, 0, 1, 0};
        for (int i = 0; i < want.length; i++) {
            parent("of sett " + setts[i], want[i], book, i);
        }
        miscopy(book, 1, 4, 8);
        parent("of sett 0, none with errors", -1, book, 3);
        parent("of sett 1 still", 0, book, 4);
    }

    private void likeCountsAlone() {
        Settbook book = book(2);
        miscopy(book, 0, 5, 9, 7);
        miscopy(book, 1, 5, 9, 7);
        parent("three with like counts", 0, book, 1);
        miscopy(book, 1, 5, 9, 8);
        parent("two less one", 0, book, 1);
        miscopy(book, 1, 5, 10, 8);
        parent("one less two", -1, book, 1);
        miscopy(book, 1, 5, 8, 6);
        parent("one less two that are right", -1, book, 1);
        miscopy(book, 0, 5, 9, 6);
        parent("one less one", -1, book, 1);
        miscopy(book, 0, 5, 8, 6);
        parent("one less none", 0, book, 1);
        miscopy(book, 0, 3, 8, 6);
        parent("none", -1, book, 1);
    }

    private void lessItsOwnErrors() {
        Settbook book = book(3);
        miscopy(book, 0, 5, 9);
        miscopy(book, 1, 5, 9, 7, 11);
        miscopy(book, 2, 5, 9, 7);
        parent("three less one, as many as two", 0, book, 2);
        miscopy(book, 2, 5, 9, 7, 11);
        parent("four", 1, book, 2);
        miscopy(book, 2, 5, 9, 7, 12, 3);
        parent("errors of the copy alone count not", 0, book, 2);
        miscopy(book, 0, 4, 9);
        parent("three less one before one", 1, book, 2);
        miscopy(book, 0, 4, 9, 7);
        parent("two and three less one", 0, book, 2);
        miscopy(book, 0, 4, 9, 7, 12, 3);
        parent("four once more", 0, book, 2);
    }

    private void ofLikeOnesTheLowest() {
        Settbook book = book(16);
        for (int copy = 3; copy < 16; copy++) {
            miscopy(book, copy, 5);
        }
        parent("those below have none", -1, book, 3);
        for (int copy = 4; copy < 16; copy++) {
            parent("of like ones", 3, book, copy);
        }
        miscopy(book, 15, 5, 9);
        miscopy(book, 13, 5, 9);
        miscopy(book, 14, 5, 9);
        parent("of two that are more", 13, book, 15);
        miscopy(book, 2, 5, 9);
        parent("of three that are more", 2, book, 15);
        parent("those behind stay", 3, book, 12);
    }

    private void theSettGoesAhead() {
        Settbook book = book(4);
        parent("no errors at all", -1, book, 3);
        miscopy(book, 3, 5, 9, 7);
        parent("none that others have", -1, book, 3);
        miscopy(book, 0, 5, 10);
        parent("one less one", -1, book, 3);
        miscopy(book, 1, 6, 10);
        parent("none less two", -1, book, 3);
        miscopy(book, 2, 4, 9);
        parent("one", 2, book, 3);
        miscopy(book, 2, 4, 9, 6, 11);
        parent("one less one again", -1, book, 3);
    }

    private static int kinship(int parent, int copy) {
        return Integer.bitCount(parent & copy) - Integer.bitCount(parent & ~copy);
    }

    /** Copies with errors by the bits of some numbers, of like counts. */
    private void allPatterns() {
        for (int seed = 0; seed < 32; seed++) {
            Settbook book = book(16);
            int[] bits = new int[16];
            for (int copy = 0; copy < 16; copy++) {
                bits[copy] = (seed * 7 + copy * (2 * seed + 5)) % 32;
                for (int stripe = 0; stripe < 5; stripe++) {
                    if ((bits[copy] >> stripe & 1) == 1) {
                        book.miscopy(copy, stripe, 1);
                    }
                }
                int want = -1;
                for (int i = 0; i < copy; i++) {
                    int most = want < 0 ? 0 : kinship(bits[want], bits[copy]);
                    want = kinship(bits[i], bits[copy]) > most ? i : want;
                }
                parent("by bits", want, book, copy);
            }
        }
    }

    private void parentsAreAskedAnew() {
        Settbook book = book(3);
        parent("at first", -1, book, 2);
        miscopy(book, 0, 5);
        parent("an error of another", -1, book, 2);
        miscopy(book, 2, 5);
        parent("and of its own", 0, book, 2);
        due.is("depth", 2, () -> book.depth(2));
        miscopy(book, 0, 4);
        parent("mended", -1, book, 2);
        due.is("depth then", 1, () -> book.depth(2));
        due.is("a refused error", Due.ELEMENT, () -> book.miscopy(0, 5, 5));
        parent("as before", -1, book, 2);
    }

    private void depthOfAChain() {
        Settbook book = book(5);
        miscopy(book, 1, 5);
        miscopy(book, 2, 5, 9);
        miscopy(book, 4, 5, 9, 7);
        int[] parents = {-1, -1, 1, -1, 2};
        int[] depths = {1, 1, 2, 1, 3};
        for (int i = 0; i < 5; i++) {
            int copy = i;
            parent("chain", parents[i], book, i);
            due.is("depth of " + i, depths[i], () -> book.depth(copy));
        }
        miscopy(book, 2, 5, 9, 6, 11, 3);
        parent("past one of many errors", 1, book, 4);
        due.is("depth past it", 2, () -> book.depth(4));
    }

    private void depthOfTheFarthest() {
        Settbook book = Due.bookOfShades(2);
        for (int i = 0; i < 16; i++) {
            book.addStripe(i % 2, 4);
        }
        book.makeSett(true);
        for (int i = 0; i < 16; i++) {
            int copy = i;
            book.addCopy(0);
            for (int stripe = 0; stripe <= i; stripe++) {
                book.miscopy(i, stripe, 5);
            }
            parent("of the one before", i - 1, book, i);
            due.is("depth of " + i, i + 1, () -> book.depth(copy));
        }
        due.is("no copy behind", Due.INDEX, () -> book.depth(16));
    }
}
