/** Promises 33 to 35. */
public final class PleatsTest {
    public static void main(String[] args) {
        Due due = new Due();
        toTheSett(due);
        toAStripe(due);
        refusals(due);
        threadsUsed(due);
        due.end();
    }

    /** Its round has 4 of shade 0, 8 of 1, 2 of 2 and 8 of 1 again. */
    private static Settbook bookOfSett() {
        Settbook book = Due.bookOfShades(3);
        Due.sett(book, true, 0, 4, 1, 8, 2, 2);
        return book;
    }

    private static void toTheSett(Due due) {
        Settbook book = bookOfSett();
        due.is("first thread", 0, () -> book.pleatShade(0, true, -5, 4, 0, 0));
        due.is("last thread", 0, () -> book.pleatShade(0, true, 99, 4, 0, 3));
        due.is("second pleat", 1, () -> book.pleatShade(0, true, 0, 4, 1, 0));
        due.is("third pleat", 2, () -> book.pleatShade(0, true, 0, 6, 2, 1));
        due.is("on and round", 0, () -> book.pleatShade(0, true, 0, 11, 2, 3));
        due.is("last pleat of the widest", 0, () -> book.pleatShade(0, true, 0, 40, 99, 0));
        due.is("plain", true, () -> book.isPlain(0, true, -1, 4, 0));
        due.is("plain on", true, () -> book.isPlain(0, true, 0, 4, 2));
        due.is("not plain", false, () -> book.isPlain(0, true, 0, 5, 0));
        due.is("one thread is plain", true, () -> book.isPlain(0, true, 0, 1, 99));
    }

    private static void toAStripe(Due due) {
        Settbook book = bookOfSett();
        due.is("middle of the first", 0, () -> book.pleatShade(0, false, 0, 4, 0, 0));
        due.is("ahead of the round", 1, () -> book.pleatShade(0, false, 0, 5 + 1, 0, 0));
        due.is("odd ones begin at half, cut", 0, () -> book.pleatShade(0, false, 0, 5, 0, 0));
        due.is("and end behind it", 1, () -> book.pleatShade(0, false, 0, 5, 0, 4));
        due.is("the pleat counts nothing", 2, () -> book.pleatShade(0, false, 2, 2, 99, 1));
        due.is("the last stripe", 1, () -> book.pleatShade(0, false, 3, 8, 0, 7));
        due.is("behind the last stripe", 0, () -> book.pleatShade(0, false, 3, 10, 0, 9));
        due.is("widest", 1, () -> book.pleatShade(0, false, 0, 40, 0, 0));
        due.is("widest, ahead by 18", 0, () -> book.pleatShade(0, false, 0, 40, 0, 18));
        due.is("plain", true, () -> book.isPlain(0, false, 1, 8, 3));
        due.is("not plain", false, () -> book.isPlain(0, false, 1, 9, 3));
        due.is("not plain ahead", false, () -> book.isPlain(0, false, 0, 6, 3));
    }

    private static void refusals(Due due) {
        Settbook book = bookOfSett();
        due.is("sett above", Due.INDEX, () -> book.pleatShade(1, true, 0, 0, 0, 0));
        due.is("sett below", Due.INDEX, () -> book.pleatShade(-1, true, 0, 4, 0, 0));
        due.is("seen below", Due.ARGUMENT, () -> book.pleatShade(0, true, 0, 0, 0, 0));
        due.is("seen above", Due.ARGUMENT, () -> book.pleatShade(0, true, 0, 41, 0, 0));
        due.is("pleat below", Due.ARGUMENT, () -> book.pleatShade(0, true, 0, 4, -1, 0));
        due.is("pleat above goes before stripe", Due.ARGUMENT, () -> book.pleatShade(0, false, 9, 4, 100, 9));
        due.is("stripe below", Due.ELEMENT, () -> book.pleatShade(0, false, -1, 4, 0, 0));
        due.is("stripe above", Due.ELEMENT, () -> book.pleatShade(0, false, 4, 4, 0, 0));
        due.is("thread below", Due.ELEMENT, () -> book.pleatShade(0, true, 0, 4, 0, -1));
        due.is("thread above", Due.ELEMENT, () -> book.pleatShade(0, false, 0, 4, 0, 4));
        due.is("plain, sett above", Due.INDEX, () -> book.isPlain(1, true, 0, 0, 0));
        due.is("plain, sett below", Due.INDEX, () -> book.isPlain(-1, true, 0, 4, 0));
        due.is("plain, seen below", Due.ARGUMENT, () -> book.isPlain(0, true, 0, 0, 0));
        due.is("plain, seen above", Due.ARGUMENT, () -> book.isPlain(0, false, 9, 41, 0));
        due.is("plain, pleat below", Due.ARGUMENT, () -> book.isPlain(0, false, 0, 4, -1));
        due.is("plain, pleat above", Due.ARGUMENT, () -> book.isPlain(0, true, 0, 4, 100));
        due.is("plain, stripe below", Due.ELEMENT, () -> book.isPlain(0, false, -1, 4, 0));
        due.is("plain, stripe above", Due.ELEMENT, () -> book.isPlain(0, false, 4, 4, 0));
    }

    private static void threadsUsed(Due due) {
        Settbook book = bookOfSett();
        due.is("one to the sett", 26, () -> book.threadsUsed(0, true, 4, 1));
        due.is("one to a stripe", 22, () -> book.threadsUsed(0, false, 4, 1));
        due.is("least to the sett", 23, () -> book.threadsUsed(0, true, 1, 1));
        due.is("most to the sett", 6200, () -> book.threadsUsed(0, true, 40, 100));
        due.is("most to a stripe", 2200, () -> book.threadsUsed(0, false, 40, 100));
        due.is("sett above", Due.INDEX, () -> book.threadsUsed(1, true, 0, 0));
        due.is("sett below", Due.INDEX, () -> book.threadsUsed(-1, true, 1, 1));
        due.is("seen below", Due.ARGUMENT, () -> book.threadsUsed(0, true, 0, 1));
        due.is("seen above", Due.ARGUMENT, () -> book.threadsUsed(0, false, 41, 1));
        due.is("pleats below", Due.ARGUMENT, () -> book.threadsUsed(0, true, 1, 0));
        due.is("pleats above", Due.ARGUMENT, () -> book.threadsUsed(0, true, 1, 101));
    }
}
