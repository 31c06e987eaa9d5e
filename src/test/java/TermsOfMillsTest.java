/** What the document's Terms say of mills, sentence by sentence, at the edges. */
public final class TermsOfMillsTest {
    private final Due due = new Due();

    public static void main(String[] args) {
        TermsOfMillsTest test = new TermsOfMillsTest();
        test.newWarpsOf60OrTheLength();
        test.asMuchLeft();
        test.onTheFirstWarp();
        test.firstWarpWithAsMuchLeft();
        test.warpsOfSettsAlike();
        test.warpsOfNoOthers();
        test.atMostTwentyOrders();
        test.atMostTenWarps();
        test.tenWarpsOfTen();
        test.bothFull();
        test.whoMayWeave();
        test.cutEndsAll();
        test.cutNothing();
        test.wasteAddsUp();
        test.settsOfLaterOrders();
        test.due.end();
    }

    /** Setts 0, 3 and 4 are alike, 1 and 2 are like none, 5 is like 0 but told twice. */
    private static Settbook book() {
        Settbook book = Due.bookOfShades(3);
        Due.sett(book, false, 0, 4, 1, 8);
        Due.sett(book, false, 0, 4, 1, 10);
        Due.sett(book, false, 0, 4, 2, 8);
        Due.sett(book, false, 1, 8, 0, 4);
        Due.sett(book, true, 0, 4, 1, 8);
        Due.sett(book, false, 0, 4, 1, 8, 0, 4, 1, 8);
        return book;
    }

    /** The next order's number, its warp and what is left of that. */
    private void put(Settbook book, int sett, int length, int order, int warp, int left) {
        String name = "order " + order + " of " + length + " of sett " + sett;
        due.is(name + " is not yet", Due.INDEX, () -> book.warpOf(order));
        due.is(name, order, () -> book.order(sett, length, 0));
        due.is(name + ", warp", warp, () -> book.warpOf(order));
        due.is(name + ", left", left, () -> book.left(warp));
    }

    private void newWarpsOf60OrTheLength() {
        for (int i = 1; i <= 99; i++) {
            Settbook book = book();
            due.is("no warp for " + i, Due.INDEX, () -> book.left(0));
            put(book, 0, i, 0, 0, i <= 60 ? 60 - i : 0);
            due.is("one warp for " + i, Due.INDEX, () -> book.left(1));
        }
        for (int length : new int[] {0, 100, -1, 101, 60000}) {
            Settbook book = book();
            due.is("length " + length, Due.ARGUMENT, () -> book.order(0, length, 0));
            due.is("no warp of length " + length, Due.INDEX, () -> book.left(0));
            due.is("no order of length " + length, Due.INDEX, () -> book.warpOf(0));
        }
    }

    private void asMuchLeft() {
        for (int first = 1; first <= 59; first++) {
            Settbook just = book();
            put(just, 0, first, 0, 0, 60 - first);
            put(just, 0, 60 - first, 1, 0, 0);
            put(just, 0, 1, 2, 1, 59);
            Settbook more = book();
            put(more, 0, first, 0, 0, 60 - first);
            put(more, 0, 61 - first, 1, 1, first - 1);
            due.is("the first stays", 60 - first, () -> more.left(0));
        }
    }

    private void onTheFirstWarp() {
        Settbook book = book();
        put(book, 0, 40, 0, 0, 20);
        put(book, 0, 41, 1, 1, 19);
        put(book, 0, 42, 2, 2, 18);
        put(book, 0, 18, 3, 0, 2);
        put(book, 0, 18, 4, 1, 1);
        put(book, 0, 18, 5, 2, 0);
        put(book, 0, 1, 6, 0, 1);
        put(book, 0, 1, 7, 0, 0);
        put(book, 0, 1, 8, 1, 0);
        put(book, 0, 1, 9, 3, 59);
        put(book, 0, 60, 10, 4, 0);
        put(book, 0, 59, 11, 3, 0);
    }

    private void firstWarpWithAsMuchLeft() {
        Settbook book = book();
        put(book, 0, 55, 0, 0, 5);
        put(book, 0, 50, 1, 1, 10);
        put(book, 0, 58, 2, 2, 2);
        put(book, 0, 10, 3, 1, 0);
        put(book, 0, 3, 4, 0, 2);
        put(book, 0, 2, 5, 0, 0);
        put(book, 0, 2, 6, 2, 0);
    }

    private void warpsOfSettsAlike() {
        Settbook book = book();
        put(book, 3, 10, 0, 0, 50);
        put(book, 0, 10, 1, 0, 40);
        put(book, 4, 10, 2, 0, 30);
        put(book, 3, 30, 3, 0, 0);
        put(book, 4, 60, 4, 1, 0);
        put(book, 0, 61, 5, 2, 0);
        put(book, 3, 1, 6, 3, 59);
        put(book, 4, 59, 7, 3, 0);
    }

    private void warpsOfNoOthers() {
        Settbook book = book();
        put(book, 0, 1, 0, 0, 59);
        put(book, 1, 1, 1, 1, 59);
        put(book, 2, 1, 2, 2, 59);
        put(book, 5, 1, 3, 3, 59);
        put(book, 1, 2, 4, 1, 57);
        put(book, 2, 2, 5, 2, 57);
        put(book, 5, 2, 6, 3, 57);
        put(book, 4, 2, 7, 0, 57);
        for (int i = 0; i < 4; i++) {
            int warp = i;
            due.is("left of " + i, 57, () -> book.left(warp));
        }
    }

    private void atMostTwentyOrders() {
        Settbook book = book();
        for (int i = 0; i < 20; i++) {
            put(book, i % 2 == 0 ? 0 : 3, 3, i, 0, 57 - 3 * i);
        }
        due.is("a 21st order, no warp", Due.STATE, () -> book.order(0, 1, 0));
        due.is("a 21st order, a warp of its own", Due.STATE, () -> book.order(1, 1, 0));
        due.is("no order 20", Due.INDEX, () -> book.warpOf(20));
        due.is("no warp of it", Due.INDEX, () -> book.left(1));
        due.is("nothing is left", 0, () -> book.left(0));
        due.is("cut", 0, () -> book.cut());
        for (int i = 0; i < 20; i++) {
            put(book, 1, 1, i, 0, 59 - i);
        }
        due.is("a 21st order again, as much left", Due.STATE, () -> book.order(1, 1, 0));
        due.is("as much is left still", 40, () -> book.left(0));
    }

    private void atMostTenWarps() {
        Settbook book = book();
        for (int i = 0; i < 10; i++) {
            put(book, 0, 50 + i, i, i, 10 - i);
        }
        due.is("an eleventh warp", Due.STATE, () -> book.order(0, 11, 0));
        due.is("an eleventh warp, longer", Due.STATE, () -> book.order(0, 99, 0));
        due.is("an eleventh warp of another", Due.STATE, () -> book.order(1, 1, 0));
        due.is("no warp 10", Due.INDEX, () -> book.left(10));
        due.is("no order 10", Due.INDEX, () -> book.warpOf(10));
        put(book, 0, 10, 10, 0, 0);
        put(book, 3, 9, 11, 1, 0);
        due.is("an eleventh warp once more", Due.STATE, () -> book.order(0, 9, 0));
        put(book, 4, 8, 12, 2, 0);
        put(book, 0, 1, 13, 3, 6);
        due.is("cut", 6 + 6 + 5 + 4 + 3 + 2 + 1, () -> book.cut());
        for (int i = 0; i < 10; i++) {
            put(book, 0, 99, i, i, 0);
        }
        due.is("an eleventh warp after a cut", Due.STATE, () -> book.order(0, 1, 0));
    }

    private void tenWarpsOfTen() {
        Settbook book = Due.bookOfShades(12);
        for (int i = 1; i < 12; i++) {
            Due.sett(book, false, 0, 4, i, 4);
        }
        for (int i = 0; i < 10; i++) {
            put(book, i, 30, i, i, 30);
        }
        due.is("of an eleventh sett", Due.STATE, () -> book.order(10, 1, 0));
        for (int i = 9; i >= 0; i--) {
            put(book, i, 30, 19 - i, i, 0);
        }
        due.is("nothing is left", Due.STATE, () -> book.order(0, 1, 0));
        due.is("cut", 0, () -> book.cut());
        put(book, 10, 1, 0, 0, 59);
    }

    private void bothFull() {
        Settbook book = book();
        for (int i = 0; i < 10; i++) {
            put(book, 0, 98, i, i, 0);
            due.is("left of " + i, 0, () -> book.left(0));
        }
        due.is("ten orders on ten warps", Due.STATE, () -> book.order(0, 1, 0));
        due.is("cut", 0, () -> book.cut());
        for (int i = 0; i < 20; i++) {
            put(book, 0, 30, i, i / 2, 30 - 30 * (i % 2));
        }
        due.is("twenty orders on ten warps", Due.STATE, () -> book.order(0, 1, 0));
        due.is("waste", 0, () -> book.getWaste());
    }

    private void whoMayWeave() {
        Settbook book = book();
        put(book, 0, 1, 0, 0, 59);
        book.register(3, 'p', 4, 1800);
        for (int i = 0; i < 10; i++) {
            int applicant = i;
            Object want = i == 4 ? (Object) 1 : Due.UNSUPPORTED;
            due.is("applicant " + i, want, () -> book.order(0, 1, applicant));
        }
        due.is("one order more", Due.INDEX, () -> book.warpOf(2));
        due.is("left", 58, () -> book.left(0));
        due.is("applicant 10", Due.ARGUMENT, () -> book.order(1, 1, 10));
        due.is("applicant -1", Due.ARGUMENT, () -> book.order(1, 1, -1));
        due.is("anybody of another", 2, () -> book.order(1, 1, 9));
        book.register(1, 'c', 4, 1800);
        due.is("a clan's", Due.UNSUPPORTED, () -> book.order(1, 1, 9));
        book.consent(1, 9);
        due.is("a clan's with consent", 3, () -> book.order(1, 1, 9));
        book.withdraw(1);
        due.is("withdrawn", Due.UNSUPPORTED, () -> book.order(1, 1, 9));
        due.is("withdrawn, the owner's", 4, () -> book.order(1, 1, 4));
    }

    private void cutEndsAll() {
        Settbook book = book();
        put(book, 0, 20, 0, 0, 40);
        put(book, 1, 99, 1, 1, 0);
        put(book, 2, 59, 2, 2, 1);
        due.is("cut", 41, () -> book.cut());
        for (int i = -1; i <= 3; i++) {
            int number = i;
            due.is("no warp " + i, Due.INDEX, () -> book.left(number));
            due.is("no order " + i, Due.INDEX, () -> book.warpOf(number));
        }
        put(book, 1, 30, 0, 0, 30);
        put(book, 0, 30, 1, 1, 30);
        put(book, 1, 30, 2, 0, 0);
        due.is("no warp behind", Due.INDEX, () -> book.left(2));
        due.is("no order behind", Due.INDEX, () -> book.warpOf(3));
        due.is("cut again", 30, () -> book.cut());
        due.is("waste of both", 71, () -> book.getWaste());
    }

    private void cutNothing() {
        Settbook book = new Settbook();
        due.is("cut without setts", 0, () -> book.cut());
        due.is("cut once more", 0, () -> book.cut());
        due.is("no waste", 0, () -> book.getWaste());
        Settbook other = book();
        put(other, 0, 59, 0, 0, 1);
        due.is("no waste before a cut", 0, () -> other.getWaste());
        due.is("cut the least", 1, () -> other.cut());
        due.is("cut none behind it", 0, () -> other.cut());
        due.is("the least waste", 1, () -> other.getWaste());
        due.is("the same waste once more", 1, () -> other.getWaste());
        put(other, 0, 60, 0, 0, 0);
        due.is("cut a warp of which nothing is left", 0, () -> other.cut());
        due.is("waste stays", 1, () -> other.getWaste());
        due.is("a refused order", Due.ARGUMENT, () -> other.order(0, 100, 0));
        due.is("cut after it", 0, () -> other.cut());
    }

    private void wasteAddsUp() {
        Settbook book = Due.bookOfShades(12);
        for (int i = 1; i < 11; i++) {
            Due.sett(book, false, 0, 4, i, 4);
        }
        for (int round = 1; round <= 30; round++) {
            for (int i = 0; i < 10; i++) {
                book.order(i, 1, 0);
            }
            int waste = 590 * round;
            due.is("ten warps cut " + round, 590, () -> book.cut());
            due.is("waste of them " + round, waste, () -> book.getWaste());
        }
    }

    /** A warp that was put up for a sett is one for setts that are made later. */
    private void settsOfLaterOrders() {
        Settbook book = book();
        put(book, 0, 20, 0, 0, 40);
        book.scale(0, 1, 1);
        put(book, 6, 20, 1, 0, 20);
        book.scale(0, 2, 1);
        put(book, 7, 20, 2, 1, 40);
        book.scale(7, 1, 2);
        put(book, 8, 20, 3, 0, 0);
        due.is("alike to the first", 0, () -> book.lowestAlike(8));
    }
}
