/** Promises 45 and 46. */
public final class ScrapsTest {
    public static void main(String[] args) {
        Due due = new Due();
        refusals(due);
        scraps(due);
        due.end();
    }

    private static void refusals(Due due) {
        Settbook book = Due.bookOfShades(2);
        due.is("no sett goes before no stripes", Due.INDEX, () -> book.fits(0));
        due.is("no stripes", Due.UNSUPPORTED, () -> book.countFits());
        Due.tell(book, 0, 1);
        due.is("no setts", 0, () -> book.countFits());
        Due.sett(book, false, 0, 4, 1, 8);
        due.is("sett below", Due.INDEX, () -> book.fits(-1));
        due.is("sett above", Due.INDEX, () -> book.fits(1));
        book.clearStripes();
        due.is("no stripes, one sett", Due.UNSUPPORTED, () -> book.fits(0));
        due.is("no stripes, count", Due.UNSUPPORTED, () -> book.countFits());
    }

    private static void scraps(Due due) {
        Settbook book = Due.bookOfShades(4);
        Due.sett(book, false, 0, 4, 1, 8, 2, 6);
        Due.sett(book, true, 0, 4, 1, 8, 2, 6);
        Due.sett(book, false, 0, 4, 1, 8);
        fit(due, book, "one stripe", "110", 2, 6);
        fit(due, book, "one stripe, torn", "110", 2, 1);
        fit(due, book, "one stripe, too long", "000", 2, 7);
        fit(due, book, "no such shade", "000", 3, 1);
        fit(due, book, "two, both torn", "111", 0, 3, 1, 7);
        fit(due, book, "two, first too long", "000", 0, 5, 1, 7);
        fit(due, book, "two, last too long", "000", 0, 3, 1, 9);
        fit(due, book, "two, back", "111", 1, 8, 0, 4);
        fit(due, book, "one shade twice", "000", 1, 2, 1, 2);
        fit(due, book, "three", "110", 0, 1, 1, 8, 2, 6);
        fit(due, book, "three, middle torn", "000", 0, 1, 1, 7, 2, 6);
        fit(due, book, "three, middle too long", "000", 0, 1, 1, 9, 2, 6);
        fit(due, book, "over the end", "100", 1, 1, 2, 6, 0, 2);
        fit(due, book, "over the end, back", "100", 1, 1, 0, 4, 2, 2);
        fit(due, book, "round the pivot", "010", 1, 8, 2, 6, 1, 8);
        fit(due, book, "round and round", "001", 0, 1, 1, 8, 0, 4, 1, 8, 0, 4, 1, 8, 0, 3);
        fit(due, book, "round and round, mirrored", "010", 1, 2, 2, 6, 1, 8, 0, 4, 1, 8, 2, 6, 1, 8, 0, 2);
        fit(due, book, "round and round, repeated", "100", 2, 2, 0, 4, 1, 8, 2, 6, 0, 4, 1, 8, 2, 6, 0, 3);
        fit(due, book, "the last of it wrong", "000", 2, 2, 0, 4, 1, 8, 2, 6, 0, 4, 1, 8, 2, 4, 0, 3);
        due.is("the row stays", 8, () -> book.clearStripes());
    }

    private static void fit(Due due, Settbook book, String name, String want, int... stripes) {
        Due.tell(book, stripes);
        int fitting = 0;
        for (int i = 0; i < want.length(); i++) {
            int sett = i;
            boolean isDue = want.charAt(i) == '1';
            fitting += isDue ? 1 : 0;
            due.is(name + ", sett " + i, isDue, () -> book.fits(sett));
        }
        due.is(name + ", count", fitting, () -> book.countFits());
    }
}
