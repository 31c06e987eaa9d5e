/** What the document's Terms say of stripes and of which rows can be setts, sentence by sentence, at the edges. */
public final class TermsOfStripesTest {
    private final Due due = new Due();

    public static void main(String[] args) {
        TermsOfStripesTest test = new TermsOfStripesTest();
        test.atMostSixteen();
        test.clearedAndToldAnew();
        test.countsOf1To200();
        test.evenCountsAreKept();
        test.staysTillItIsCleared();
        test.growsBehindASett();
        test.atMostTwentySetts();
        test.twoStripesOrMore();
        test.allCountsAreEven();
        test.noTwoBesideEachOther();
        test.firstAndLastIfItRepeats();
        test.sameShadeFurtherApart();
        test.due.end();
    }

    /** A row of stripes of which none are beside one of their shade, nor are the ends. */
    private static int[] row(int size) {
        int[] stripes = new int[2 * size];
        for (int i = 0; i < size; i++) {
            stripes[2 * i] = i == size - 1 ? 2 : i % 2;
            stripes[2 * i + 1] = 2 * i + 2;
        }
        return stripes;
    }

    private static int[] changed(int[] stripes, int place, int value) {
        int[] other = stripes.clone();
        other[place] = value;
        return other;
    }

    private void makes(String name, boolean isMirrored, Object want, int... stripes) {
        Settbook book = Due.bookOfShades(4);
        Due.tell(book, stripes);
        due.is(name + (isMirrored ? ", mirrored" : ", repeated"), want, () -> book.makeSett(isMirrored));
        due.is(name + ", first sett", want.equals(0) ? (Object) stripes[1] : Due.INDEX, () -> book.getCount(0, 0));
    }

    private void atMostSixteen() {
        Settbook book = Due.bookOfShades(2);
        due.is("an empty row", 0, () -> book.clearStripes());
        for (int i = 1; i <= 16; i++) {
            due.is("stripe " + i, i, () -> book.addStripe(1, 3));
        }
        due.is("stripe 17", Due.STATE, () -> book.addStripe(1, 3));
        due.is("stripe 17 of another shade and count", Due.STATE, () -> book.addStripe(0, 200));
        due.is("16 stripes stay", 16, () -> book.clearStripes());
        due.is("none stay", 0, () -> book.clearStripes());
    }

    private void clearedAndToldAnew() {
        Settbook book = Due.bookOfShades(2);
        for (int size = 0; size <= 16; size++) {
            int had = size;
            for (int i = 0; i < size; i++) {
                book.addStripe(i % 2, 2);
            }
            due.is("clear " + size, had, () -> book.clearStripes());
            due.is("clear after " + size, 0, () -> book.clearStripes());
        }
        due.is("first stripe anew", 1, () -> book.addStripe(0, 6));
        due.is("second stripe anew", 2, () -> book.addStripe(1, 8));
        due.is("nothing is left of the row before", 0, () -> book.makeSett(false));
        due.is("stripes", 2, () -> book.countStripes(0));
        due.is("threads", 14, () -> book.getThreads(0));
    }

    /** A torn stripe fits if the round has at least as many, so it shows its count. */
    private void countsOf1To200() {
        for (int i = 1; i <= 200; i++) {
            Settbook book = Due.bookOfShades(2);
            int count = i;
            int even = count + count % 2;
            Due.sett(book, false, 0, even, 1, 2);
            if (even > 2) {
                Due.sett(book, false, 0, even - 2, 1, 2);
            }
            book.clearStripes();
            due.is("count " + i, 1, () -> book.addStripe(0, count));
            due.is("at most " + even, true, () -> book.fits(0));
            due.is("more than " + (even - 2), 1, () -> book.countFits());
        }
        for (int count : new int[] {0, 201, -1, -200, 400, Integer.MIN_VALUE, Integer.MAX_VALUE}) {
            Settbook book = Due.bookOfShades(2);
            due.is("count " + count, Due.ARGUMENT, () -> book.addStripe(0, count));
            due.is("no stripe of it", 0, () -> book.clearStripes());
        }
    }

    private void evenCountsAreKept() {
        for (int i = 2; i <= 200; i += 2) {
            Settbook book = Due.bookOfShades(2);
            int count = i;
            Due.sett(book, false, 0, count, 1, 202 - count);
            due.is("count " + i, count, () -> book.getCount(0, 0));
            due.is("count beside " + i, 202 - count, () -> book.getCount(0, 1));
        }
    }

    private void staysTillItIsCleared() {
        Settbook book = Due.bookOfShades(3);
        Due.sett(book, true, 0, 4, 1, 8, 2, 2);
        book.makeSett(false);
        book.scale(0, 2, 1);
        book.addCopy(0);
        book.miscopy(0, 0, 9);
        book.fits(0);
        book.countFits();
        book.register(0, 'n', 0, 1800);
        book.order(0, 5, 0);
        book.cut();
        due.is("refused stripe", Due.ARGUMENT, () -> book.addStripe(0, 0));
        due.is("the row is made a sett once more", 3, () -> book.makeSett(true));
        for (int i = 0; i < 4; i++) {
            int index = i;
            due.is("shade " + i, new int[] {0, 1, 2, 1}[i], () -> book.getShade(3, index));
            due.is("count " + i, new int[] {4, 8, 2, 8}[i], () -> book.getCount(3, index));
        }
        due.is("it has the stripes still", 3, () -> book.clearStripes());
        due.is("it is cleared", Due.UNSUPPORTED, () -> book.makeSett(true));
    }

    private void growsBehindASett() {
        Settbook book = Due.bookOfShades(3);
        Due.sett(book, false, 0, 4, 1, 8);
        book.addCopy(0);
        due.is("one stripe more", 3, () -> book.addStripe(2, 6));
        due.is("a sett of all", 1, () -> book.makeSett(false));
        due.is("stripes of the first", 2, () -> book.countStripes(0));
        due.is("stripes of the second", 3, () -> book.countStripes(1));
        due.is("a copy of the first", Due.ELEMENT, () -> book.miscopy(0, 2, 4));
        Due.tell(book, 2, 20, 0, 30);
        due.is("the first stays", 4, () -> book.getCount(0, 0));
        due.is("its form stays", 8, () -> book.formCount(0, 1));
        due.is("the second stays", 0, () -> book.getShade(1, 0));
        due.is("the copy stays", 0, () -> book.miscopy(0, 0, 4));
    }

    private void atMostTwentySetts() {
        for (boolean isScaled : new boolean[] {true, false}) {
            Settbook book = Due.bookOfShades(2);
            Due.sett(book, true, 0, 4, 1, 8);
            for (int i = 1; i < 20; i++) {
                int number = i;
                due.is("no sett " + i + " yet", Due.INDEX, () -> book.getThreads(number));
                due.is("sett " + i, i, () -> isScaled ? book.scale(number - 1, 1, 1) : book.makeSett(number % 2 == 0));
                due.is("threads of sett " + i, 12, () -> book.getThreads(number));
            }
            due.is("a 21st sett, mirrored", Due.STATE, () -> book.makeSett(true));
            due.is("a 21st sett, repeated", Due.STATE, () -> book.makeSett(false));
            due.is("a 21st sett, scaled", Due.STATE, () -> book.scale(19, 1, 2));
            due.is("no sett 20", Due.INDEX, () -> book.getThreads(20));
            due.is("sett 19 stays", 12, () -> book.getThreads(19));
        }
    }

    private void twoStripesOrMore() {
        for (boolean isMirrored : new boolean[] {true, false}) {
            makes("no stripe", isMirrored, Due.UNSUPPORTED);
            makes("one stripe", isMirrored, Due.UNSUPPORTED, 0, 2);
            makes("one stripe of the most", isMirrored, Due.UNSUPPORTED, 1, 200);
            for (int size = 2; size <= 16; size++) {
                makes(size + " stripes", isMirrored, 0, row(size));
            }
        }
    }

    private void allCountsAreEven() {
        for (int size = 2; size <= 16; size++) {
            for (int place = 0; place < size; place++) {
                for (int count : new int[] {1, 3, 199}) {
                    String name = "count " + count + " at " + place + " of " + size;
                    makes(name, true, Due.UNSUPPORTED, changed(row(size), 2 * place + 1, count));
                    makes(name, false, Due.UNSUPPORTED, changed(row(size), 2 * place + 1, count));
                }
                makes("count 200 at " + place, true, 0, changed(row(size), 2 * place + 1, 200));
                makes("count 2 at " + place, false, 0, changed(row(size), 2 * place + 1, 2));
            }
        }
        makes("two odd counts", true, Due.UNSUPPORTED, 0, 3, 1, 3);
        makes("two odd counts", false, Due.UNSUPPORTED, 0, 1, 1, 1);
    }

    private void noTwoBesideEachOther() {
        for (int size = 2; size <= 16; size++) {
            for (int place = 1; place < size; place++) {
                int[] stripes = changed(row(size), 2 * place, row(size)[2 * place - 2]);
                String name = "one shade at " + (place - 1) + " and " + place + " of " + size;
                makes(name, true, Due.UNSUPPORTED, stripes);
                makes(name, false, Due.UNSUPPORTED, stripes);
            }
        }
        makes("all of one shade", true, Due.UNSUPPORTED, 0, 2, 0, 4, 0, 6);
        makes("all of one shade", false, Due.UNSUPPORTED, 0, 2, 0, 4, 0, 6);
    }

    private void firstAndLastIfItRepeats() {
        for (int size = 3; size <= 16; size++) {
            int[] stripes = row(size);
            stripes[0] = 3;
            stripes[2 * size - 2] = 3;
            makes("one shade at both ends of " + size, false, Due.UNSUPPORTED, stripes);
            makes("one shade at both ends of " + size, true, 0, stripes);
            makes("other shades at the ends of " + size, false, 0, changed(stripes, 0, 2));
        }
        makes("ends of one shade and count", false, Due.UNSUPPORTED, 0, 4, 1, 8, 0, 4);
        makes("ends of one shade and count", true, 0, 0, 4, 1, 8, 0, 4);
    }

    private void sameShadeFurtherApart() {
        makes("one shade again behind another", false, 0, 0, 4, 1, 8, 0, 4, 2, 8);
        makes("one shade again behind another", true, 0, 0, 4, 1, 8, 0, 4, 2, 8);
        makes("two shades in turn", false, 0, 0, 4, 1, 8, 0, 4, 1, 8);
        makes("the last again ahead of the end", false, 0, 0, 4, 1, 8, 2, 4, 1, 8);
        makes("like counts beside each other", false, 0, 0, 4, 1, 4, 2, 4);
        makes("like counts beside each other", true, 0, 0, 4, 1, 4, 2, 4);
    }
}
