/** Promises 25 to 32. */
public final class RegisterTest {
    public static void main(String[] args) {
        Due due = new Due();
        setRuling(due);
        register(due);
        contest(due);
        contestDirection(due);
        withdraw(due);
        rights(due);
        consent(due);
        due.end();
    }

    /** Setts 0, 1 and 2 have the distances 0 to 1: 16, 0 to 2: 32, 1 to 2: 16; 3 is alike to 0. */
    private static Settbook bookOfSetts() {
        Settbook book = new Settbook();
        book.addShade('A', 0, 0, 0);
        book.addShade('B', 31, 0, 0);
        book.addShade('C', 31, 2, 0);
        book.addShade('D', 31, 4, 0);
        Due.sett(book, false, 0, 4, 1, 4);
        Due.sett(book, false, 0, 4, 2, 4);
        Due.sett(book, false, 0, 4, 3, 4);
        Due.sett(book, false, 1, 4, 0, 4);
        return book;
    }

    private static void setRuling(Due due) {
        Settbook book = bookOfSetts();
        due.is("first ruling", 100, () -> book.setRuling(9999));
        due.is("ruling above", Due.ARGUMENT, () -> book.setRuling(10000));
        due.is("ruling below", Due.ARGUMENT, () -> book.setRuling(-1));
        due.is("greatest ruling", 9999, () -> book.setRuling(0));
        due.is("least ruling", 0, () -> book.setRuling(17));
        book.register(0, 'n', 0, 1600);
        book.register(1, 'n', 0, 1700);
        due.is("below the ruling", true, () -> book.isContested(1));
        book.setRuling(16);
        due.is("not below the ruling", false, () -> book.isContested(1));
    }

    private static void register(Due due) {
        Settbook book = bookOfSetts();
        due.is("sett below", Due.INDEX, () -> book.register(-1, 'x', -1, 0));
        due.is("sett above", Due.INDEX, () -> book.register(4, 'c', 0, 1800));
        due.is("no kind", Due.ARGUMENT, () -> book.register(0, 'C', 0, 1800));
        due.is("no kind at all", Due.ARGUMENT, () -> book.register(0, (char) 0, 0, 1800));
        due.is("owner below", Due.ARGUMENT, () -> book.register(0, 'c', -1, 1800));
        due.is("owner above", Due.ARGUMENT, () -> book.register(0, 'c', 10, 1800));
        due.is("year below", Due.ARGUMENT, () -> book.register(0, 'c', 0, 1499));
        due.is("year above", Due.ARGUMENT, () -> book.register(0, 'c', 0, 2001));
        due.is("none is registered", Due.UNSUPPORTED, () -> book.isContested(0));
        due.is("clan", 1, () -> book.register(0, 'c', 0, 1500));
        due.is("again", Due.UNSUPPORTED, () -> book.register(0, 'd', 1, 1600));
        due.is("range goes before again", Due.ARGUMENT, () -> book.register(0, 'd', 1, 2001));
        due.is("district", 2, () -> book.register(3, 'd', 9, 2000));
        due.is("firm", 3, () -> book.register(1, 'f', 5, 1700));
        due.is("person", 4, () -> book.register(2, 'p', 5, 1700));
        book.withdraw(2);
        due.is("again after withdrawal", Due.UNSUPPORTED, () -> book.register(2, 'n', 1, 1600));
        Settbook other = bookOfSetts();
        due.is("fashion", 1, () -> other.register(2, 'n', 5, 1700));
    }

    private static void contest(Due due) {
        Settbook book = bookOfSetts();
        due.is("sett below", Due.INDEX, () -> book.isContested(-1));
        due.is("sett above", Due.INDEX, () -> book.isContested(4));
        due.is("by, sett below", Due.INDEX, () -> book.contestedBy(-1));
        due.is("by, sett above", Due.INDEX, () -> book.contestedBy(4));
        due.is("not registered", Due.UNSUPPORTED, () -> book.isContested(2));
        due.is("by, not registered", Due.UNSUPPORTED, () -> book.contestedBy(2));
        book.register(2, 'n', 0, 1800);
        due.is("alone", false, () -> book.isContested(2));
        due.is("by none", Due.ELEMENT, () -> book.contestedBy(2));
        book.register(1, 'n', 0, 1800);
        due.is("like proof, lower number", true, () -> book.isContested(2));
        due.is("like proof, higher number", false, () -> book.isContested(1));
        due.is("by the lower", 1, () -> book.contestedBy(2));
        book.register(3, 'n', 0, 1700);
        due.is("by the earlier of two", 3, () -> book.contestedBy(2));
        due.is("the higher number may be earlier", 3, () -> book.contestedBy(1));
        book.register(0, 'n', 0, 1700);
        due.is("by the lower of two like ones", 0, () -> book.contestedBy(2));
        due.is("alike contest too", 0, () -> book.contestedBy(3));
        book.setRuling(17);
        due.is("the far one is out", 1, () -> book.contestedBy(2));
        book.setRuling(0);
        due.is("nothing is below 0", false, () -> book.isContested(2));
    }

    /** The distance of 0 to 1 is 502, that of 1 to 0 is 531. */
    private static void contestDirection(Due due) {
        Settbook book = new Settbook();
        book.addShade('A', 0, 0, 0);
        book.addShade('B', 31, 0, 0);
        book.addShade('C', 0, 0, 5);
        Due.sett(book, false, 0, 4, 1, 4);
        Due.sett(book, false, 0, 2, 1, 4, 2, 6);
        book.register(0, 'n', 0, 1600);
        book.register(1, 'n', 0, 1500);
        book.setRuling(502);
        due.is("of the lower number to the other one", false, () -> book.isContested(0));
        book.setRuling(503);
        due.is("below it", true, () -> book.isContested(0));
        due.is("by the higher number", 1, () -> book.contestedBy(0));
    }

    private static void withdraw(Due due) {
        Settbook book = bookOfSetts();
        due.is("sett below", Due.INDEX, () -> book.withdraw(-1));
        due.is("sett above", Due.INDEX, () -> book.withdraw(4));
        due.is("not registered", Due.UNSUPPORTED, () -> book.withdraw(0));
        book.register(0, 'n', 0, 1600);
        book.register(1, 'n', 0, 1700);
        due.is("contested", true, () -> book.withdraw(1));
        due.is("withdrawn", Due.UNSUPPORTED, () -> book.withdraw(1));
        due.is("still contested", true, () -> book.isContested(1));
        due.is("not contested", false, () -> book.withdraw(0));
        due.is("withdrawn ones contest no more", false, () -> book.isContested(1));
    }

    private static void rights(Due due) {
        Settbook book = bookOfSetts();
        due.is("sett below", Due.INDEX, () -> book.rightOf(-1));
        due.is("sett above", Due.INDEX, () -> book.rightOf(4));
        due.is("no right", Due.ELEMENT, () -> book.rightOf(0));
        due.is("anybody may", true, () -> book.mayWeave(0, 7));
        due.is("may, sett above", Due.INDEX, () -> book.mayWeave(4, 10));
        due.is("may, sett below", Due.INDEX, () -> book.mayWeave(-1, 1));
        due.is("applicant below", Due.ARGUMENT, () -> book.mayWeave(0, -1));
        due.is("applicant above", Due.ARGUMENT, () -> book.mayWeave(0, 10));
        book.register(3, 'f', 3, 1800);
        due.is("right by the one alike", 3, () -> book.rightOf(0));
        due.is("none by the one near", Due.ELEMENT, () -> book.rightOf(1));
        due.is("a firm's", false, () -> book.mayWeave(0, 7));
        due.is("a firm's owner", true, () -> book.mayWeave(0, 3));
        book.register(0, 'd', 4, 1800);
        due.is("of like proofs the lower", 0, () -> book.rightOf(3));
        due.is("a district's", true, () -> book.mayWeave(3, 7));
        book.register(1, 'n', 5, 1700);
        due.is("a contested one's", false, () -> book.mayWeave(3, 7));
        due.is("a contested one's owner", true, () -> book.mayWeave(3, 4));
        due.is("the owner of the one behind", false, () -> book.mayWeave(3, 3));
        book.withdraw(1);
        due.is("contested no more", true, () -> book.mayWeave(3, 7));
        due.is("fashion, withdrawn", false, () -> book.mayWeave(1, 7));
        due.is("its owner", true, () -> book.mayWeave(1, 5));
        book.withdraw(0);
        due.is("the right stays", 0, () -> book.rightOf(3));
        due.is("withdrawn", false, () -> book.mayWeave(3, 7));
        book.register(2, 'p', 6, 1500);
        due.is("a person's", false, () -> book.mayWeave(2, 7));
        due.is("a person's own", true, () -> book.mayWeave(2, 6));
    }

    private static void consent(Due due) {
        Settbook book = bookOfSetts();
        due.is("sett below", Due.INDEX, () -> book.consent(-1, 10));
        due.is("sett above", Due.INDEX, () -> book.consent(4, 1));
        due.is("not registered", Due.UNSUPPORTED, () -> book.consent(0, 1));
        due.is("applicant below", Due.ARGUMENT, () -> book.consent(0, -1));
        due.is("applicant above", Due.ARGUMENT, () -> book.consent(0, 10));
        book.register(0, 'c', 3, 1800);
        book.register(1, 'n', 3, 1900);
        due.is("no clan's", Due.UNSUPPORTED, () -> book.consent(1, 1));
        due.is("a clan's", false, () -> book.mayWeave(3, 9));
        due.is("consent", false, () -> book.consent(0, 9));
        due.is("consent again", true, () -> book.consent(0, 9));
        due.is("to another", false, () -> book.consent(0, 0));
        due.is("with consent", true, () -> book.mayWeave(3, 9));
        due.is("with consent, 0", true, () -> book.mayWeave(0, 0));
        due.is("without", false, () -> book.mayWeave(0, 8));
        book.register(2, 'd', 3, 1700);
        due.is("contested with consent", false, () -> book.mayWeave(0, 9));
        book.withdraw(0);
        due.is("consent for a withdrawn one", false, () -> book.consent(0, 5));
    }
}
