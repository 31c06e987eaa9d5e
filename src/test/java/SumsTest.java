/** Promises 47 to 50. */
public final class SumsTest {
    public static void main(String[] args) {
        Due due = new Due();
        checksum(due);
        contestedShare(due);
        meanThreads(due);
        isSound(due);
        checksumOfEachSett(due);
        sharesOfUpToTwenty(due);
        shareOfAllAndNone(due);
        meansOfUpToTwenty(due);
        soundBooks(due);
        due.end();
    }

    private static void checksum(Due due) {
        Settbook book = Due.bookOfShades(3);
        due.is("at first", 217L, () -> book.checksum());
        Due.sett(book, false, 2, 6, 1, 8);
        long first = ((7 * 31 + 14) * 31 + 1) * 31 + 8;
        due.is("one sett", first * 31, () -> book.checksum());
        book.order(0, 20, 0);
        due.is("no waste yet", first * 31, () -> book.checksum());
        book.cut();
        due.is("waste", first * 31 + 40, () -> book.checksum());
        long all = first;
        for (int i = 1; i < 20; i++) {
            book.scale(0, 20, 1);
            all = ((all * 31 + 280) * 31 + 1) * 31 + 160;
        }
        long wrapped = all * 31 + 40;
        due.is("wraps around", wrapped, () -> book.checksum());
    }

    private static void contestedShare(Due due) {
        Settbook book = Due.bookOfShades(3);
        due.is("no setts", Due.ARITHMETIC, () -> book.contestedShare());
        Due.sett(book, false, 0, 4, 1, 8);
        Due.sett(book, false, 0, 4, 2, 8);
        Due.sett(book, false, 1, 4, 2, 200);
        due.is("none registered", Due.ARITHMETIC, () -> book.contestedShare());
        book.register(0, 'n', 0, 1600);
        due.is("alone", 0.0f, () -> book.contestedShare());
        book.register(1, 'n', 0, 1600);
        due.is("half", 0.5f, () -> book.contestedShare());
        book.register(2, 'n', 0, 1700);
        due.is("a third", 1.0f / 3.0f, () -> book.contestedShare());
        book.setRuling(9999);
        due.is("two thirds", 2.0f / 3.0f, () -> book.contestedShare());
        book.withdraw(2);
        due.is("withdrawn ones count", 2.0f / 3.0f, () -> book.contestedShare());
        book.withdraw(0);
        due.is("contested by the other one", 1.0f / 3.0f, () -> book.contestedShare());
        Settbook other = Due.bookOfShades(3);
        Due.sett(other, false, 0, 4, 1, 8);
        Due.sett(other, false, 0, 4, 2, 8);
        other.register(0, 'n', 0, 1600);
        other.register(1, 'n', 0, 1500);
        due.is("the first sett is contested", 0.5f, () -> other.contestedShare());
    }

    private static void meanThreads(Due due) {
        Settbook book = Due.bookOfShades(2);
        due.is("no setts", Due.ARITHMETIC, () -> book.meanThreads());
        Due.sett(book, false, 0, 4, 1, 8);
        due.is("one", 12.0, () -> book.meanThreads());
        Due.sett(book, false, 0, 2, 1, 2);
        due.is("two", 8.0, () -> book.meanThreads());
        Due.sett(book, true, 0, 2, 1, 2, 0, 2);
        due.is("three", 24.0 / 3.0, () -> book.meanThreads());
        Due.sett(book, true, 0, 2, 1, 4);
        due.is("four", 7.5, () -> book.meanThreads());
    }

    private static void isSound(Due due) {
        Settbook book = Due.bookOfShades(3);
        due.is("empty", true, () -> book.isSound());
        Due.sett(book, true, 0, 4, 1, 8, 0, 2);
        Due.sett(book, true, 0, 2, 1, 8, 0, 4);
        Due.sett(book, true, 0, 2, 1, 8);
        Due.sett(book, false, 0, 2, 1, 8, 0, 4, 1, 8);
        book.scale(0, 1, 20);
        due.is("with setts", true, () -> book.isSound());
        book.order(0, 99, 0);
        book.order(0, 60, 0);
        due.is("with warps", true, () -> book.isSound());
        book.addCopy(0);
        book.addCopy(0);
        book.miscopy(0, 0, 3);
        book.miscopy(1, 0, 3);
        due.is("with copies", true, () -> book.isSound());
    }

    private static void checksumOfEachSett(Due due) {
        Settbook book = Due.bookOfShades(12);
        long sum = 7;
        for (int i = 0; i < 20; i++) {
            int shade = i % 11;
            int count = 200 - 2 * i;
            Due.sett(book, i % 2 == 0, 11, 200, shade, count);
            sum = 31 * (31 * (31 * sum + 200 + count) + shade) + count;
            long want = 31 * sum;
            due.is("of " + (i + 1) + " setts", want, () -> book.checksum());
            due.is("once more of " + (i + 1), want, () -> book.checksum());
        }
        long all = sum;
        book.order(0, 1, 0);
        book.order(1, 1, 0);
        due.is("before a cut", 31 * all, () -> book.checksum());
        book.cut();
        due.is("after a cut", 31 * all + 118, () -> book.checksum());
        book.order(0, 59, 0);
        book.cut();
        due.is("after another cut", 31 * all + 119, () -> book.checksum());
        due.is("a sett more", Due.STATE, () -> book.makeSett(true));
        due.is("as before", 31 * all + 119, () -> book.checksum());
    }

    /** Of setts that are all alike each is contested but the one ahead. */
    private static void sharesOfUpToTwenty(Due due) {
        Settbook book = Due.bookOfShades(2);
        Due.sett(book, false, 0, 4, 1, 8);
        for (int i = 1; i < 20; i++) {
            book.makeSett(false);
        }
        due.is("of setts that are not registered", Due.ARITHMETIC, () -> book.contestedShare());
        for (int i = 1; i <= 20; i++) {
            float want = (float) (i - 1) / (float) i;
            book.register(20 - i, 'n', 0, 1800);
            due.is("all but one of " + i, want, () -> book.contestedShare());
        }
        book.withdraw(0);
        due.is("all but the withdrawn one and the next", 18.0f / 20.0f, () -> book.contestedShare());
        book.setRuling(0);
        due.is("none of 20", 0.0f, () -> book.contestedShare());
        book.setRuling(1);
        for (int i = 1; i < 20; i++) {
            float want = (float) Math.max(0, 18 - i) / 20.0f;
            book.withdraw(i);
            due.is("when " + (i + 1) + " are withdrawn", want, () -> book.contestedShare());
        }
    }

    private static void shareOfAllAndNone(Due due) {
        Settbook book = Due.bookOfShades(2);
        Due.sett(book, false, 0, 4, 1, 8);
        book.makeSett(false);
        due.is("setts alone", Due.ARITHMETIC, () -> book.contestedShare());
        due.is("a refused one", Due.ARGUMENT, () -> book.register(0, 'x', 0, 1800));
        due.is("setts alone still", Due.ARITHMETIC, () -> book.contestedShare());
        book.register(1, 'n', 0, 1800);
        due.is("one that is not contested", 0.0f, () -> book.contestedShare());
        book.withdraw(1);
        due.is("one that is withdrawn", 0.0f, () -> book.contestedShare());
        book.register(0, 'n', 0, 1900);
        due.is("by one that is withdrawn", 0.0f, () -> book.contestedShare());
    }

    private static void meansOfUpToTwenty(Due due) {
        Settbook book = Due.bookOfShades(2);
        int sum = 0;
        for (int i = 1; i <= 20; i++) {
            int count = 2 * (i * i % 97) + 2;
            Due.sett(book, i % 2 == 0, 0, count, 1, 2);
            sum += count + 2;
            double want = (double) sum / (double) i;
            due.is("of " + i + " setts", want, () -> book.meanThreads());
        }
        due.is("a refused one", Due.STATE, () -> book.makeSett(true));
        double want = (double) sum / 20.0;
        due.is("of 20 setts still", want, () -> book.meanThreads());
        Settbook longest = Due.bookOfShades(2);
        for (int i = 0; i < 16; i++) {
            longest.addStripe(i % 2, 200);
        }
        for (int i = 0; i < 20; i++) {
            longest.makeSett(true);
        }
        due.is("of the longest", 6000.0, () -> longest.meanThreads());
    }

    private static void soundBooks(Due due) {
        due.is("some", true, () -> Books.some().isSound());
        due.is("full", true, () -> Books.full().isSound());
        due.is("tight", true, () -> Books.tight().isSound());
        Settbook book = Books.full();
        for (int copy = 0; copy < 16; copy++) {
            for (int stripe = 0; stripe < 2; stripe++) {
                book.miscopy(copy, stripe, 199);
            }
        }
        due.is("full, with errors", true, () -> book.isSound());
        book.cut();
        due.is("full, cut", true, () -> book.isSound());
    }
}
