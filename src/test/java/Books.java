/** Books in the states that refusals are tried in, made anew at every call. */
final class Books {
    static final int SHADES_OF_SOME = 3;
    static final int SETTS_OF_SOME = 5;
    static final int ORDERS_OF_SOME = 3;
    static final int WARPS_OF_SOME = 2;
    static final int COPIES_OF_SOME = 2;

    private Books() {
    }

    /** Has some of everything and room for more; sett 4 alone is not registered, setts 1 and 3 are alike. */
    static Settbook some() {
        Settbook book = new Settbook();
        book.addShade('A', 0, 0, 0);
        book.addShade('M', 31, 0, 4);
        book.addShade('Z', 31, 2, 0);
        Due.sett(book, true, 0, 4, 1, 8, 2, 2);
        Due.sett(book, false, 0, 4, 1, 4);
        Due.sett(book, false, 0, 4, 2, 4);
        Due.sett(book, false, 1, 4, 0, 4);
        book.scale(0, 3, 2);
        registerSome(book);
        book.order(4, 20, 0);
        book.cut();
        book.order(4, 50, 1);
        book.order(0, 30, 3);
        book.order(4, 10, 2);
        book.addCopy(0);
        book.miscopy(0, 1, 6);
        book.addCopy(0);
        book.miscopy(1, 1, 6);
        book.miscopy(1, 0, 12);
        Due.tell(book, 0, 6, 1, 4, 2, 8);
        return book;
    }

    /** One of each kind but fashion: 1 is contested by 2, and 3 is withdrawn. */
    private static void registerSome(Settbook book) {
        book.register(0, 'c', 3, 1800);
        book.consent(0, 4);
        book.register(1, 'd', 5, 1750);
        book.register(2, 'p', 6, 1700);
        book.register(3, 'f', 7, 1900);
        book.withdraw(3);
        book.setRuling(60);
    }

    /** Has 12 shades 'A' to 'L', 16 stripes, 20 setts, 20 orders on 10 warps and 16 copies. */
    static Settbook full() {
        Settbook book = Due.bookOfShades(12);
        tellLongest(book);
        book.makeSett(true);
        Due.sett(book, false, 0, 4, 1, 8);
        for (int number = 2; number < 20; number++) {
            book.scale(1, number, 1);
        }
        book.register(0, 'c', 0, 1800);
        book.consent(0, 9);
        book.register(1, 'p', 1, 1750);
        for (int i = 0; i < 20; i++) {
            book.order(2 + i % 10, i < 10 ? 50 : 1, 0);
        }
        for (int copy = 0; copy < 16; copy++) {
            book.addCopy(copy % 2);
        }
        book.miscopy(0, 15, 4);
        book.miscopy(2, 15, 4);
        tellLongest(book);
        return book;
    }

    private static void tellLongest(Settbook book) {
        book.clearStripes();
        for (int i = 0; i < 16; i++) {
            book.addStripe(i % 12, 2 * i + 2);
        }
    }

    /** Has 10 warps with 1 left of each, and 10 orders; sett 1 is a person's of the owner 1. */
    static Settbook tight() {
        Settbook book = Due.bookOfShades(3);
        Due.sett(book, false, 0, 4, 1, 8);
        Due.sett(book, false, 0, 4, 2, 8);
        book.register(1, 'p', 1, 1750);
        for (int i = 0; i < 10; i++) {
            book.order(0, 59, 0);
        }
        return book;
    }
}
