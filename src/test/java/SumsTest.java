/** Promises 47 to 50. */
public final class SumsTest {
    public static void main(String[] args) {
        Due due = new Due();
        checksum(due);
        contestedShare(due);
        meanThreads(due);
        isSound(due);
        due.end();
    }

    private static void checksum(Due due) {
        Settbook book = Due.bookOfShades(3);
        due.is("at first", 217L, () -> book.checksum());
        Due.sett(book, false, 2, 6, 1, 8);
        long first = ((7 * 31 + 14) * 31 + 1) * 31 + 8;
        due.is("one sett", first * 31, () -> book.checksum());
        book.order(0, 20, 0);
        due.is("no waste yet", first * 31, () -> book.checksum());
        book.cut();
        due.is("waste", first * 31 + 40, () -> book.checksum());
        long all = first;
        for (int i = 1; i < 20; i++) {
            book.scale(0, 20, 1);
            all = ((all * 31 + 280) * 31 + 1) * 31 + 160;
        }
        long wrapped = all * 31 + 40;
        due.is("wraps around", wrapped, () -> book.checksum());
    }

    private static void contestedShare(Due due) {
        Settbook book = Due.bookOfShades(3);
        due.is("no setts", Due.ARITHMETIC, () -> book.contestedShare());
        Due.sett(book, false, 0, 4, 1, 8);
        Due.sett(book, false, 0, 4, 2, 8);
        Due.sett(book, false, 1, 4, 2, 200);
        due.is("none registered", Due.ARITHMETIC, () -> book.contestedShare());
        book.register(0, 'n', 0, 1600);
        due.is("alone", 0.0f, () -> book.contestedShare());
        book.register(1, 'n', 0, 1600);
        due.is("half", 0.5f, () -> book.contestedShare());
        book.register(2, 'n', 0, 1700);
        due.is("a third", 1.0f / 3.0f, () -> book.contestedShare());
        book.setRuling(9999);
        due.is("two thirds", 2.0f / 3.0f, () -> book.contestedShare());
        book.withdraw(2);
        due.is("withdrawn ones count", 2.0f / 3.0f, () -> book.contestedShare());
        book.withdraw(0);
        due.is("contested by the other one", 1.0f / 3.0f, () -> book.contestedShare());
        Settbook other = Due.bookOfShades(3);
        Due.sett(other, false, 0, 4, 1, 8);
        Due.sett(other, false, 0, 4, 2, 8);
        other.register(0, 'n', 0, 1600);
        other.register(1, 'n', 0, 1500);
        due.is("the first sett is contested", 0.5f, () -> other.contestedShare());
    }

    private static void meanThreads(Due due) {
        Settbook book = Due.bookOfShades(2);
        due.is("no setts", Due.ARITHMETIC, () -> book.meanThreads());
        Due.sett(book, false, 0, 4, 1, 8);
        due.is("one", 12.0, () -> book.meanThreads());
        Due.sett(book, false, 0, 2, 1, 2);
        due.is("two", 8.0, () -> book.meanThreads());
        Due.sett(book, true, 0, 2, 1, 2, 0, 2);
        due.is("three", 24.0 / 3.0, () -> book.meanThreads());
        Due.sett(book, true, 0, 2, 1, 4);
        due.is("four", 7.5, () -> book.meanThreads());
    }

    private static void isSound(Due due) {
        Settbook book = Due.bookOfShades(3);
        due.is("empty", true, () -> book.isSound());
        Due.sett(book, true, 0, 4, 1, 8, 0, 2);
        Due.sett(book, true, 0, 2, 1, 8, 0, 4);
        Due.sett(book, true, 0, 2, 1, 8);
        Due.sett(book, false, 0, 2, 1, 8, 0, 4, 1, 8);
        book.scale(0, 1, 20);
        due.is("with setts", true, () -> book.isSound());
        book.order(0, 99, 0);
        book.order(0, 60, 0);
        due.is("with warps", true, () -> book.isSound());
        book.addCopy(0);
        book.addCopy(0);
        book.miscopy(0, 0, 3);
        book.miscopy(1, 0, 3);
        due.is("with copies", true, () -> book.isSound());
    }
}
