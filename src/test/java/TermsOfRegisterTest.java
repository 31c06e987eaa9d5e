/** What the document's Terms say of the register and of rights, sentence by sentence, at the edges. */
public final class TermsOfRegisterTest {
    private static final char[] KINDS = {'c', 'd', 'f', 'p', 'n'};

    private final Due due = new Due();

    public static void main(String[] args) {
        TermsOfRegisterTest test = new TermsOfRegisterTest();
        test.fiveKinds();
        test.ownersAndYears();
        test.registeredOnce();
        test.allTwentyAreRegistered();
        test.earlierProofGoesAhead();
        test.ofLikeProofsTheLowerNumber();
        test.belowTheRuling();
        test.theFirstRulingIs100();
        test.fromTheLowerNumberToTheOther();
        test.contestedByTheForemost();
        test.withdrawnOnesContestNot();
        test.withdrawnForGood();
        test.rightOfSettsAlike();
        test.rightByTheForemost();
        test.withoutRightAnybody();
        test.whoMayByKind();
        test.consentToEach();
        test.consentIsOfOneSett();
        test.due.end();
    }

    /** Each two are 16 apart a number; 5 and 6 are alike to 0, 7 is alike to 1. */
    private static Settbook book() {
        Settbook book = new Settbook();
        for (int i = 0; i < 6; i++) {
            book.addShade((char) ('A' + i), i == 0 ? 0 : 31, 0, 2 * Math.max(0, i - 1));
        }
        for (int i = 1; i <= 5; i++) {
            Due.sett(book, false, 0, 4, i, 4);
        }
        Due.sett(book, false, 1, 4, 0, 4);
        Due.sett(book, true, 0, 4, 1, 4);
        Due.sett(book, false, 2, 4, 0, 4);
        return book;
    }

    private void contested(String name, Object want, Settbook book, int sett) {
        Object by = want.equals(-1) ? Due.ELEMENT : want;
        due.is(name + ", whether " + sett + " is", !want.equals(-1), () -> book.isContested(sett));
        due.is(name + ", by which " + sett + " is", by, () -> book.contestedBy(sett));
    }

    private void may(String name, String want, Settbook book, int sett) {
        for (int i = 0; i < 10; i++) {
            int applicant = i;
            boolean isDue = want.indexOf('0' + i) >= 0;
            due.is(name + ", may " + i + " weave " + sett, isDue, () -> book.mayWeave(sett, applicant));
        }
    }

    private void fiveKinds() {
        for (int i = 0; i <= Character.MAX_VALUE; i++) {
            char kind = (char) i;
            Object want = "cdfpn".indexOf(i) >= 0 ? (Object) 1 : Due.ARGUMENT;
            Settbook book = new Settbook();
            book.addShade('A', 0, 0, 0);
            book.addShade('B', 0, 0, 0);
            Due.sett(book, false, 0, 2, 1, 2);
            due.is("kind " + i, want, () -> book.register(0, kind, 0, 1800));
        }
    }

    private void ownersAndYears() {
        for (int i = -1; i <= 10; i++) {
            Settbook book = book();
            int owner = i;
            boolean isDue = i >= 0 && i <= 9;
            due.is("owner " + i, isDue ? (Object) 1 : Due.ARGUMENT, () -> book.register(0, 'p', owner, 1800));
            due.is("a right of " + i, isDue ? (Object) 0 : Due.ELEMENT, () -> book.rightOf(0));
            may("owner " + i, isDue ? "" + i : "0123456789", book, 0);
        }
        for (int year : new int[] {1499, 1500, 1501, 1999, 2000, 2001, 0, -1500, 150, 15000}) {
            Settbook book = book();
            boolean isDue = year >= 1500 && year <= 2000;
            due.is("year " + year, isDue ? (Object) 1 : Due.ARGUMENT, () -> book.register(0, 'p', 0, year));
            due.is("registered of " + year, isDue ? (Object) false : Due.UNSUPPORTED, () -> book.isContested(0));
        }
    }

    private void registeredOnce() {
        for (char kind : KINDS) {
            Settbook book = book();
            book.register(0, kind, 3, 1800);
            for (char other : KINDS) {
                due.is(kind + " and " + other, Due.UNSUPPORTED, () -> book.register(0, other, 4, 1700));
            }
            due.is(kind + " is one", 2, () -> book.register(1, kind, 3, 1900));
            may("the first owner of " + kind, kind == 'd' || kind == 'n' ? "0123456789" : "3", book, 0);
            book.withdraw(0);
            due.is(kind + " once more, withdrawn", Due.UNSUPPORTED, () -> book.register(0, kind, 3, 1800));
            due.is(kind + " is counted still", 3, () -> book.register(2, kind, 3, 1900));
            due.is("one alike to it is another", 4, () -> book.register(5, kind, 3, 1900));
        }
    }

    private void allTwentyAreRegistered() {
        Settbook book = Due.bookOfShades(2);
        Due.sett(book, false, 0, 2, 1, 2);
        for (int i = 1; i < 20; i++) {
            book.makeSett(false);
        }
        for (int i = 19; i >= 0; i--) {
            int sett = i;
            due.is("not yet " + i, Due.UNSUPPORTED, () -> book.withdraw(sett));
            due.is("register " + i, 20 - i, () -> book.register(sett, 'n', 0, 1600));
            contested("the lowest so far", -1, book, i);
        }
        contested("the last of all", 0, book, 19);
        due.is("no sett more", Due.INDEX, () -> book.register(20, 'n', 0, 1600));
    }

    private void earlierProofGoesAhead() {
        for (int year : new int[] {1500, 1501, 1749, 1999}) {
            Settbook book = book();
            book.register(0, 'n', 0, year + 1);
            book.register(1, 'n', 0, year);
            contested("proof of " + year, 1, book, 0);
            contested("proof of " + year, -1, book, 1);
            Settbook other = book();
            other.register(1, 'n', 0, year + 1);
            other.register(0, 'n', 0, year);
            contested("proof of " + (year + 1), 0, other, 1);
            contested("proof of " + (year + 1), -1, other, 0);
        }
    }

    private void ofLikeProofsTheLowerNumber() {
        for (int year : new int[] {1500, 1750, 2000}) {
            Settbook book = book();
            book.register(1, 'n', 0, year);
            book.register(0, 'n', 0, year);
            contested("like proofs of " + year, -1, book, 0);
            contested("like proofs of " + year, 0, book, 1);
            due.is("the right to the higher of both", 0, () -> book.rightOf(5));
            book.register(5, 'n', 0, year);
            due.is("the right stays with the lower", 0, () -> book.rightOf(5));
            contested("like proofs, alike", 0, book, 5);
        }
    }

    /** The distances are 0 to setts alike, then 16, 32, 48, 64. */
    private void belowTheRuling() {
        for (int apart = 0; apart <= 64; apart += 16) {
            Settbook book = book();
            int rival = apart == 0 ? 5 : apart / 16;
            book.register(0, 'n', 0, 1900);
            book.register(rival, 'n', 0, 1800);
            due.is("distance " + apart, apart, () -> book.distance(0, rival));
            for (int ruling : new int[] {0, apart - 1, apart, apart + 1, 9999}) {
                if (ruling >= 0) {
                    book.setRuling(ruling);
                    contested(apart + " by a ruling of " + ruling, apart < ruling ? rival : -1, book, 0);
                }
            }
        }
    }

    /** Distances of 99, 100 and 101 to sett 0. */
    private void theFirstRulingIs100() {
        int[][] shades = {{0, 0, 0}, {31, 0, 0}, {0, 31, 0}, {0, 0, 31}, {31, 31, 31}, {9, 8, 8}, {20, 11, 11},
            {7, 7, 6}, {28, 2, 2}};
        int[][] near = {{0, 6}, {5, 1}, {7, 8}};
        for (int i = 0; i < 3; i++) {
            Settbook book = new Settbook();
            for (int j = 0; j < shades.length; j++) {
                book.addShade((char) ('A' + j), shades[j][0], shades[j][1], shades[j][2]);
            }
            int apart = 99 + i;
            Due.sett(book, false, 0, 4, 1, 4, 2, 4, 3, 4, 4, 4);
            Due.sett(book, false, near[i][0], 4, near[i][1], 4, 2, 4, 3, 4, 4, 4);
            book.register(0, 'n', 0, 1600);
            book.register(1, 'n', 0, 1700);
            due.is("apart by " + apart, apart, () -> book.distance(0, 1));
            contested("apart by " + apart, i == 0 ? 0 : -1, book, 1);
            due.is("the first ruling", 100, () -> book.setRuling(101));
            contested("apart by " + apart + ", ruling of 101", i < 2 ? 0 : -1, book, 1);
            due.is("the ruling before", 101, () -> book.setRuling(102));
            contested("apart by " + apart + ", ruling of 102", 0, book, 1);
        }
    }

    /** From 0 to 1 it is 502, from 1 to 0 it is 531, whichever goes ahead. */
    private void fromTheLowerNumberToTheOther() {
        for (int first = 0; first < 2; first++) {
            Settbook book = new Settbook();
            book.addShade('A', 0, 0, 0);
            book.addShade('B', 31, 0, 0);
            book.addShade('C', 0, 0, 5);
            Due.sett(book, false, 0, 4, 1, 4);
            Due.sett(book, false, 0, 2, 1, 4, 2, 6);
            int second = 1 - first;
            book.register(first, 'n', 0, 1600);
            book.register(second, 'n', 0, 1700);
            due.is("from the lower number", 502, () -> book.distance(0, 1));
            due.is("from the higher number", 531, () -> book.distance(1, 0));
            book.setRuling(502);
            contested("ruling of 502", -1, book, second);
            book.setRuling(503);
            contested("ruling of 503", first, book, second);
            contested("the one ahead", -1, book, first);
        }
    }

    private void contestedByTheForemost() {
        Settbook book = book();
        int[] years = {1900, 1800, 1800, 1700, 1850, 1700};
        for (int i = 0; i < 6; i++) {
            book.register(i, 'n', 0, years[i]);
        }
        contested("of two of 1700 the lower", 3, book, 0);
        book.setRuling(48);
        contested("the one 48 apart is out", 5, book, 0);
        contested("of those near 1", 3, book, 1);
        book.withdraw(5);
        contested("of two of 1800 the lower", 1, book, 0);
        book.withdraw(1);
        contested("the other one of 1800", 2, book, 0);
        book.withdraw(2);
        contested("none is left", -1, book, 0);
        book.setRuling(49);
        contested("the one 48 apart is in", 3, book, 0);
        book.withdraw(3);
        contested("that of 1850 is 64 apart", -1, book, 0);
        book.setRuling(65);
        contested("that of 1850", 4, book, 0);
        contested("but for those withdrawn", -1, book, 4);
        contested("those withdrawn are contested", 4, book, 0);
    }

    private void withdrawnOnesContestNot() {
        Settbook book = book();
        book.register(0, 'n', 0, 1700);
        book.register(1, 'n', 0, 1800);
        book.register(2, 'n', 0, 1900);
        due.is("the last one was contested", true, () -> book.withdraw(2));
        contested("withdrawn itself", 0, book, 2);
        due.is("the first one was not", false, () -> book.withdraw(0));
        contested("the second one no more", -1, book, 1);
        contested("the last one by the second", 1, book, 2);
        due.is("the second one is not now", false, () -> book.withdraw(1));
        contested("the last one by none", -1, book, 2);
    }

    private void withdrawnForGood() {
        Settbook book = book();
        due.is("not registered", Due.UNSUPPORTED, () -> book.withdraw(0));
        book.register(0, 'c', 3, 1700);
        book.consent(0, 4);
        book.register(1, 'n', 0, 1800);
        due.is("withdrawn", false, () -> book.withdraw(0));
        due.is("withdrawn again", Due.UNSUPPORTED, () -> book.withdraw(0));
        due.is("registered again", Due.UNSUPPORTED, () -> book.register(0, 'c', 3, 1600));
        due.is("consent is given still", false, () -> book.consent(0, 5));
        due.is("consent was given before", true, () -> book.consent(0, 4));
        book.setRuling(0);
        book.cut();
        may("withdrawn for good", "3", book, 0);
        may("one alike to it", "3", book, 5);
        contested("one near it", -1, book, 1);
        due.is("the right to it stays", 0, () -> book.rightOf(5));
    }

    private void right(String name, Object want, Settbook book, int sett) {
        due.is(name + ", right to " + sett, want, () -> book.rightOf(sett));
    }

    private void rightOfSettsAlike() {
        Settbook book = book();
        for (int i = 0; i < 8; i++) {
            right("none registered", Due.ELEMENT, book, i);
        }
        book.register(5, 'p', 1, 2000);
        int[] alike = {0, 5, 6};
        for (int sett : alike) {
            right("by one alike", 5, book, sett);
            may("by one alike", "1", book, sett);
        }
        for (int sett : new int[] {1, 2, 3, 4, 7}) {
            right("by none near", Due.ELEMENT, book, sett);
        }
        book.register(7, 'p', 2, 1500);
        right("by another one alike", 7, book, 1);
        right("its own", 7, book, 7);
        right("not by an earlier one near", 5, book, 0);
    }

    private void rightByTheForemost() {
        Settbook book = book();
        book.register(6, 'p', 6, 1701);
        right("its own", 6, book, 6);
        book.register(5, 'p', 5, 1700);
        right("by the earlier", 5, book, 6);
        may("by the earlier", "5", book, 6);
        book.register(0, 'p', 4, 1700);
        for (int sett : new int[] {0, 5, 6}) {
            right("by the lower of like ones", 0, book, sett);
            may("by the lower of like ones", "4", book, sett);
        }
        book.withdraw(0);
        right("withdrawn", 0, book, 6);
        may("withdrawn", "4", book, 6);
    }

    private void withoutRightAnybody() {
        Settbook book = book();
        book.register(1, 'p', 1, 1500);
        may("without a right", "0123456789", book, 0);
        may("without a right, alike", "0123456789", book, 5);
        may("without a right, near", "0123456789", book, 2);
        may("with a right", "1", book, 1);
        may("with a right, alike", "1", book, 7);
    }

    /** Plain, withdrawn, contested and both; the clan has given consent to 0, 4 and 9. */
    private void whoMayByKind() {
        for (char kind : KINDS) {
            for (int state = 0; state < 4; state++) {
                Settbook book = book();
                book.register(0, kind, 7, 1800);
                if (kind == 'c') {
                    book.consent(0, 0);
                    book.consent(0, 4);
                    book.consent(0, 9);
                }
                if (state % 2 == 1) {
                    book.withdraw(0);
                }
                if (state >= 2) {
                    book.register(1, 'n', 2, 1700);
                }
                String free = kind == 'c' ? "0479" : kind == 'd' || kind == 'n' ? "0123456789" : "7";
                may(kind + " in state " + state, state == 0 ? free : "7", book, 0);
                may(kind + " in state " + state + ", alike", state == 0 ? free : "7", book, 5);
            }
        }
    }

    private void consentToEach() {
        for (int i = 0; i < 10; i++) {
            Settbook book = book();
            int applicant = i;
            book.register(0, 'c', 3, 1800);
            due.is("consent to " + i, false, () -> book.consent(0, applicant));
            due.is("consent to " + i + " once more", true, () -> book.consent(0, applicant));
            may("consent to " + i, "3" + i, book, 0);
        }
        Settbook book = book();
        book.register(0, 'c', 3, 1800);
        for (int applicant : new int[] {-1, 10, -10, 32, 33, Integer.MIN_VALUE, Integer.MAX_VALUE}) {
            due.is("consent to " + applicant, Due.ARGUMENT, () -> book.consent(0, applicant));
        }
        may("consent to none", "3", book, 0);
        for (int i = 9; i >= 0; i--) {
            int applicant = i;
            due.is("consent to all, " + i, false, () -> book.consent(0, applicant));
        }
        may("consent to all", "0123456789", book, 0);
    }

    private void consentIsOfOneSett() {
        Settbook book = book();
        book.register(0, 'c', 3, 1800);
        book.register(5, 'c', 2, 1900);
        due.is("consent by the one behind", false, () -> book.consent(5, 8));
        may("consent by the one behind", "3", book, 5);
        due.is("consent by the one ahead", false, () -> book.consent(0, 8));
        may("consent by the one ahead", "38", book, 5);
        due.is("to a sett alike that is not registered", Due.UNSUPPORTED, () -> book.consent(6, 1));
        for (char kind : new char[] {'d', 'f', 'p', 'n'}) {
            Settbook other = book();
            other.register(0, kind, 3, 1800);
            due.is("consent by " + kind, Due.UNSUPPORTED, () -> other.consent(0, 1));
        }
    }
}
