/** Promises 36 to 40. */
public final class MillTest {
    public static void main(String[] args) {
        Due due = new Due();
        warps(due);
        refusals(due);
        fullOfOrders(due);
        fullOfWarps(due);
        due.end();
    }

    /** Setts 0 and 2 are alike. */
    private static Settbook bookOfSetts() {
        Settbook book = Due.bookOfShades(2);
        Due.sett(book, false, 0, 4, 1, 8);
        Due.sett(book, false, 0, 4, 1, 6);
        Due.sett(book, true, 1, 8, 0, 4);
        return book;
    }

    private static void warps(Due due) {
        Settbook book = bookOfSetts();
        due.is("first order", 0, () -> book.order(0, 50, 0));
        due.is("another sett", 1, () -> book.order(1, 5, 0));
        due.is("too much for the first", 2, () -> book.order(2, 11, 0));
        due.is("just what is left", 3, () -> book.order(2, 10, 9));
        due.is("longer than a warp", 4, () -> book.order(0, 61, 0));
        due.is("longest", 5, () -> book.order(0, 99, 0));
        due.is("first that has as much", 6, () -> book.order(0, 1, 0));
        int[] warps = {0, 1, 2, 0, 3, 4, 2};
        for (int i = 0; i < warps.length; i++) {
            int order = i;
            due.is("warpOf " + i, warps[i], () -> book.warpOf(order));
        }
        int[] lefts = {0, 55, 48, 0, 0};
        for (int i = 0; i < lefts.length; i++) {
            int warp = i;
            due.is("left " + i, lefts[i], () -> book.left(warp));
        }
        due.is("no order", Due.INDEX, () -> book.warpOf(7));
        due.is("order below", Due.INDEX, () -> book.warpOf(-1));
        due.is("no warp", Due.INDEX, () -> book.left(5));
        due.is("warp below", Due.INDEX, () -> book.left(-1));
        due.is("no waste", 0, () -> book.getWaste());
        due.is("cut", 103, () -> book.cut());
        due.is("waste", 103, () -> book.getWaste());
        due.is("no order after a cut", Due.INDEX, () -> book.warpOf(0));
        due.is("no warp after a cut", Due.INDEX, () -> book.left(0));
        due.is("order anew", 0, () -> book.order(1, 60, 0));
        due.is("warp anew", 0, () -> book.left(0));
        due.is("order anew, behind", 1, () -> book.order(1, 59, 0));
        due.is("warp anew, behind", 1, () -> book.warpOf(1));
        due.is("cut again", 1, () -> book.cut());
        due.is("waste adds up", 104, () -> book.getWaste());
        due.is("cut nothing", 0, () -> book.cut());
    }

    private static void refusals(Due due) {
        Settbook book = bookOfSetts();
        due.is("sett below", Due.INDEX, () -> book.order(-1, 0, 0));
        due.is("sett above", Due.INDEX, () -> book.order(3, 1, 0));
        due.is("length below", Due.ARGUMENT, () -> book.order(0, 0, 0));
        due.is("length above", Due.ARGUMENT, () -> book.order(0, 100, 0));
        due.is("applicant below", Due.ARGUMENT, () -> book.order(0, 1, -1));
        due.is("applicant above", Due.ARGUMENT, () -> book.order(0, 1, 10));
        book.register(2, 'p', 4, 1900);
        due.is("may not weave", Due.UNSUPPORTED, () -> book.order(0, 1, 3));
        due.is("range goes before it", Due.ARGUMENT, () -> book.order(0, 100, 3));
        due.is("no warp of refused ones", Due.INDEX, () -> book.left(0));
        due.is("the owner may", 0, () -> book.order(0, 1, 4));
    }

    private static void fullOfOrders(Due due) {
        Settbook book = bookOfSetts();
        for (int i = 0; i < 20; i++) {
            due.is("order " + i, i, () -> book.order(0, 1, 0));
        }
        due.is("no room", Due.STATE, () -> book.order(0, 1, 0));
        due.is("left stays", 40, () -> book.left(0));
        book.register(2, 'p', 4, 1900);
        due.is("right goes before room", Due.UNSUPPORTED, () -> book.order(0, 1, 3));
        book.cut();
        due.is("room again", 0, () -> book.order(0, 1, 4));
    }

    private static void fullOfWarps(Due due) {
        Settbook book = bookOfSetts();
        for (int i = 0; i < 10; i++) {
            due.is("order " + i, i, () -> book.order(0, 59, 0));
        }
        due.is("last warp", 9, () -> book.warpOf(9));
        due.is("no warp more", Due.STATE, () -> book.order(0, 2, 0));
        due.is("no warp more for another", Due.STATE, () -> book.order(1, 1, 0));
        due.is("no order of refused ones", Due.INDEX, () -> book.warpOf(10));
        due.is("a warp that has as much", 10, () -> book.order(0, 1, 0));
        due.is("is the first", 0, () -> book.warpOf(10));
        due.is("cut", 9, () -> book.cut());
    }
}
