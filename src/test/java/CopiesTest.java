/** Promises 41 to 44. */
public final class CopiesTest {
    public static void main(String[] args) {
        Due due = new Due();
        addCopy(due);
        miscopy(due);
        parents(due);
        errorsOfTheParent(due);
        depths(due);
        deepest(due);
        due.end();
    }

    /** Setts 0 and 1 are alike, but not the same. */
    private static Settbook bookOfSetts() {
        Settbook book = Due.bookOfShades(5);
        Due.sett(book, true, 0, 4, 1, 8, 2, 6, 3, 10, 4, 2);
        book.makeSett(true);
        return book;
    }

    private static void addCopy(Due due) {
        Settbook book = bookOfSetts();
        due.is("sett below", Due.INDEX, () -> book.addCopy(-1));
        due.is("sett above", Due.INDEX, () -> book.addCopy(2));
        for (int i = 0; i < 16; i++) {
            due.is("copy " + i, i, () -> book.addCopy(0));
        }
        due.is("no room", Due.STATE, () -> book.addCopy(0));
        due.is("no sett goes before room", Due.INDEX, () -> book.addCopy(2));
        due.is("no copy more", Due.INDEX, () -> book.parentOf(16));
    }

    private static void deepest(Due due) {
        Settbook book = Due.bookOfShades(2);
        for (int i = 0; i < 16; i++) {
            book.addStripe(i % 2, 4);
        }
        book.makeSett(true);
        for (int copy = 0; copy < 16; copy++) {
            book.addCopy(0);
            for (int stripe = 0; stripe <= copy; stripe++) {
                book.miscopy(copy, stripe, 5);
            }
        }
        due.is("deepest parent", 14, () -> book.parentOf(15));
        due.is("deepest", 16, () -> book.depth(15));
    }

    private static void miscopy(Due due) {
        Settbook book = bookOfSetts();
        book.addCopy(0);
        due.is("copy below", Due.INDEX, () -> book.miscopy(-1, 0, 0));
        due.is("copy above", Due.INDEX, () -> book.miscopy(1, 0, 2));
        due.is("count below goes before stripe", Due.ARGUMENT, () -> book.miscopy(0, 9, 0));
        due.is("count above", Due.ARGUMENT, () -> book.miscopy(0, 0, 201));
        due.is("stripe below", Due.ELEMENT, () -> book.miscopy(0, -1, 2));
        due.is("stripe above, as told", Due.ELEMENT, () -> book.miscopy(0, 5, 2));
        due.is("the same count", 0, () -> book.miscopy(0, 0, 4));
        due.is("an odd count", 1, () -> book.miscopy(0, 0, 1));
        due.is("the greatest count", 2, () -> book.miscopy(0, 4, 200));
        due.is("another wrong one", 2, () -> book.miscopy(0, 4, 199));
        due.is("mended", 1, () -> book.miscopy(0, 0, 4));
        due.is("the sett stays", 2, () -> book.getCount(0, 4));
    }

    private static void parents(Due due) {
        Settbook book = bookOfSetts();
        due.is("copy below", Due.INDEX, () -> book.parentOf(-1));
        due.is("no copy", Due.INDEX, () -> book.parentOf(0));
        for (int i = 0; i < 4; i++) {
            book.addCopy(i == 1 ? 1 : 0);
            book.miscopy(i, 0, 6);
        }
        due.is("first", -1, () -> book.parentOf(0));
        due.is("of another sett", -1, () -> book.parentOf(1));
        due.is("not by another sett", 0, () -> book.parentOf(2));
        due.is("of like ones the lowest", 0, () -> book.parentOf(3));
        book.miscopy(0, 1, 2);
        due.is("with an error more, the next", 2, () -> book.parentOf(3));
        due.is("the sett goes ahead of 0", -1, () -> book.parentOf(2));
        book.miscopy(2, 1, 4);
        due.is("an error with another count is had not", -1, () -> book.parentOf(2));
        book.miscopy(2, 1, 2);
        book.miscopy(3, 1, 2);
        book.miscopy(3, 2, 2);
        due.is("two", 0, () -> book.parentOf(2));
        due.is("two of like ones", 0, () -> book.parentOf(3));
        book.miscopy(2, 2, 2);
        due.is("three go before two", 2, () -> book.parentOf(3));
        book.miscopy(2, 3, 2);
        due.is("three less one are two", 0, () -> book.parentOf(3));
        book.miscopy(0, 4, 4);
        due.is("two less one are one", 2, () -> book.parentOf(3));
        due.is("no higher one", -1, () -> book.parentOf(0));
        book.addCopy(0);
        due.is("without errors", -1, () -> book.parentOf(4));
    }

    private static void errorsOfTheParent(Due due) {
        Settbook book = bookOfSetts();
        for (int copy = 0; copy < 3; copy++) {
            book.addCopy(0);
            book.miscopy(copy, 0, 6);
        }
        for (int copy = 1; copy < 3; copy++) {
            book.miscopy(copy, 1, 6);
            book.miscopy(copy, 2, 8);
        }
        book.miscopy(1, 3, 8);
        due.is("three less one go before one", 1, () -> book.parentOf(2));
        book.miscopy(1, 4, 8);
        due.is("three less two are one", 0, () -> book.parentOf(2));
        book.miscopy(0, 0, 4);
        due.is("one goes before the sett", 1, () -> book.parentOf(2));
        book.miscopy(2, 3, 12);
        book.miscopy(2, 0, 4);
        due.is("two less three", -1, () -> book.parentOf(2));
    }

    private static void depths(Due due) {
        Settbook book = bookOfSetts();
        due.is("copy below", Due.INDEX, () -> book.depth(-1));
        due.is("no copy", Due.INDEX, () -> book.depth(0));
        for (int copy = 0; copy < 5; copy++) {
            book.addCopy(0);
            for (int stripe = 0; stripe <= copy; stripe++) {
                book.miscopy(copy, stripe, 1);
            }
            int number = copy;
            due.is("depth " + copy, copy + 1, () -> book.depth(number));
        }
        book.miscopy(1, 4, 7);
        due.is("past the one that went wrong", 4, () -> book.depth(4));
        due.is("its own depth", 2, () -> book.depth(1));
    }
}
