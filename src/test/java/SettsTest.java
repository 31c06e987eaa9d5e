/** Promises 5 to 18. */
public final class SettsTest {
    public static void main(String[] args) {
        Due due = new Due();
        stripes(due);
        makeSett(due);
        rounds(due);
        forms(due);
        likeness(due);
        threads(due);
        shares(due);
        due.end();
    }

    private static void stripes(Due due) {
        Settbook book = Due.bookOfShades(2);
        due.is("shade below", Due.INDEX, () -> book.addStripe(-1, 2));
        due.is("shade above goes before count", Due.INDEX, () -> book.addStripe(2, 0));
        due.is("count below", Due.ARGUMENT, () -> book.addStripe(0, 0));
        due.is("count above", Due.ARGUMENT, () -> book.addStripe(0, 201));
        due.is("least count", 1, () -> book.addStripe(0, 1));
        due.is("greatest count", 2, () -> book.addStripe(0, 200));
        for (int i = 3; i <= 16; i++) {
            due.is("stripe " + i, i, () -> book.addStripe(1, 7));
        }
        due.is("no room", Due.STATE, () -> book.addStripe(1, 7));
        due.is("bad count goes before room", Due.ARGUMENT, () -> book.addStripe(1, 201));
        due.is("bad shade goes before room", Due.INDEX, () -> book.addStripe(2, 7));
        due.is("clear", 16, () -> book.clearStripes());
        due.is("clear again", 0, () -> book.clearStripes());
        due.is("anew", 1, () -> book.addStripe(1, 7));
    }

    private static void makeSett(Due due) {
        Settbook book = Due.bookOfShades(3);
        due.is("empty row", Due.UNSUPPORTED, () -> book.makeSett(true));
        Due.tell(book, 0, 4);
        due.is("one stripe mirrored", Due.UNSUPPORTED, () -> book.makeSett(true));
        due.is("one stripe repeated", Due.UNSUPPORTED, () -> book.makeSett(false));
        Due.tell(book, 0, 4, 1, 3, 2, 2);
        due.is("odd count", Due.UNSUPPORTED, () -> book.makeSett(true));
        Due.tell(book, 0, 4, 1, 2, 2, 3);
        due.is("odd count at the end", Due.UNSUPPORTED, () -> book.makeSett(false));
        Due.tell(book, 0, 3, 1, 4);
        due.is("odd count at the beginning", Due.UNSUPPORTED, () -> book.makeSett(false));
        Due.tell(book, 0, 4, 0, 2, 1, 2);
        due.is("one shade twice at the beginning", Due.UNSUPPORTED, () -> book.makeSett(true));
        Due.tell(book, 1, 4, 0, 2, 0, 2);
        due.is("one shade twice at the end", Due.UNSUPPORTED, () -> book.makeSett(false));
        Due.tell(book, 0, 4, 1, 2, 1, 2, 0, 2);
        due.is("one shade twice", Due.UNSUPPORTED, () -> book.makeSett(true));
        Due.tell(book, 0, 4, 1, 2, 0, 2);
        due.is("same ends repeated", Due.UNSUPPORTED, () -> book.makeSett(false));
        due.is("same ends mirrored", 0, () -> book.makeSett(true));
        due.is("the row stays", 3, () -> book.clearStripes());
        Due.tell(book, 0, 2, 1, 200);
        for (int i = 1; i < 20; i++) {
            boolean isMirrored = i % 2 == 0;
            due.is("sett " + i, i, () -> book.makeSett(isMirrored));
        }
        due.is("no room", Due.STATE, () -> book.makeSett(true));
        Due.tell(book, 0, 2, 1, 3);
        due.is("bad row goes before room", Due.UNSUPPORTED, () -> book.makeSett(true));
        due.is("no sett more", Due.INDEX, () -> book.getThreads(20));
    }

    private static void rounds(Due due) {
        Settbook book = Due.bookOfShades(4);
        Due.sett(book, true, 0, 4, 1, 8, 2, 2, 3, 6);
        Due.sett(book, false, 0, 4, 1, 8, 2, 2, 3, 6);
        Due.sett(book, true, 0, 4, 1, 8);
        due.is("threads mirrored", 30, () -> book.getThreads(0));
        due.is("threads repeated", 20, () -> book.getThreads(1));
        due.is("threads of pivots alone", 12, () -> book.getThreads(2));
        due.is("stripes mirrored", 6, () -> book.countStripes(0));
        due.is("stripes repeated", 4, () -> book.countStripes(1));
        due.is("stripes of pivots alone", 2, () -> book.countStripes(2));
        int[] shades = {0, 1, 2, 3, 2, 1};
        int[] counts = {4, 8, 2, 6, 2, 8};
        for (int i = 0; i < 6; i++) {
            int index = i;
            due.is("getShade " + i, shades[i], () -> book.getShade(0, index));
            due.is("getCount " + i, counts[i], () -> book.getCount(0, index));
        }
        due.is("getShade below", Due.ELEMENT, () -> book.getShade(0, -1));
        due.is("getShade above", Due.ELEMENT, () -> book.getShade(0, 6));
        due.is("getShade above, repeated", Due.ELEMENT, () -> book.getShade(1, 4));
        due.is("getCount below", Due.ELEMENT, () -> book.getCount(0, -1));
        due.is("getCount above", Due.ELEMENT, () -> book.getCount(0, 6));
        for (int sett : new int[] {-1, 3, Integer.MIN_VALUE, Integer.MAX_VALUE}) {
            due.is("getThreads of none", Due.INDEX, () -> book.getThreads(sett));
            due.is("countStripes of none", Due.INDEX, () -> book.countStripes(sett));
            due.is("getShade of none", Due.INDEX, () -> book.getShade(sett, -1));
            due.is("getCount of none", Due.INDEX, () -> book.getCount(sett, 0));
            due.is("formShade of none", Due.INDEX, () -> book.formShade(sett, 0));
            due.is("formCount of none", Due.INDEX, () -> book.formCount(sett, 99));
        }
        longest(due);
    }

    private static void longest(Due due) {
        Settbook book = Due.bookOfShades(2);
        for (int i = 0; i < 16; i++) {
            book.addStripe(i % 2, 200);
        }
        due.is("longest sett", 0, () -> book.makeSett(true));
        due.is("longest round", 30, () -> book.countStripes(0));
        due.is("most threads", 6000, () -> book.getThreads(0));
        due.is("last stripe", 1, () -> book.getShade(0, 29));
        due.is("last stripe of the form", 200, () -> book.formCount(0, 29));
        due.is("behind it", Due.ELEMENT, () -> book.formCount(0, 30));
    }

    private static void forms(Due due) {
        Settbook book = Due.bookOfShades(4);
        Due.sett(book, false, 3, 2, 0, 8, 1, 6, 0, 4, 2, 2);
        form(due, book, 0, new int[] {0, 4, 1, 6, 0, 8, 3, 2, 2, 2});
        Due.sett(book, false, 2, 2, 0, 4, 1, 6, 0, 4, 3, 2);
        form(due, book, 1, new int[] {0, 4, 1, 6, 0, 4, 2, 2, 3, 2});
        Due.sett(book, true, 1, 6, 2, 4, 0, 8);
        form(due, book, 2, new int[] {0, 8, 2, 4, 1, 6, 2, 4});
        Due.sett(book, false, 0, 4, 1, 6, 0, 4, 1, 2);
        form(due, book, 3, new int[] {0, 4, 1, 2, 0, 4, 1, 6});
        due.is("formShade below", Due.ELEMENT, () -> book.formShade(0, -1));
        due.is("formShade above", Due.ELEMENT, () -> book.formShade(0, 5));
        due.is("formCount below", Due.ELEMENT, () -> book.formCount(2, -1));
        due.is("formCount above", Due.ELEMENT, () -> book.formCount(2, 4));
    }

    private static void form(Due due, Settbook book, int sett, int[] stripes) {
        for (int i = 0; i < stripes.length / 2; i++) {
            int index = i;
            due.is("formShade " + sett + " " + i, stripes[2 * i], () -> book.formShade(sett, index));
            due.is("formCount " + sett + " " + i, stripes[2 * i + 1], () -> book.formCount(sett, index));
        }
    }

    private static void likeness(Due due) {
        Settbook book = Due.bookOfShades(3);
        Due.sett(book, false, 0, 4, 1, 6, 2, 8);
        Due.sett(book, false, 0, 4, 1, 6, 2, 10);
        Due.sett(book, false, 1, 6, 2, 8, 0, 4);
        Due.sett(book, false, 1, 6, 0, 4, 2, 8);
        Due.sett(book, false, 0, 4, 1, 6, 2, 8, 0, 4, 1, 6, 2, 8);
        Due.sett(book, true, 0, 4, 1, 6, 2, 8);
        Due.sett(book, false, 1, 6, 2, 8, 1, 6, 0, 4);
        due.is("alike to itself", true, () -> book.isAlike(0, 0));
        due.is("another count", false, () -> book.isAlike(0, 1));
        due.is("begun elsewhere", true, () -> book.isAlike(0, 2));
        due.is("gone back", true, () -> book.isAlike(3, 0));
        due.is("gone back, the other way", true, () -> book.isAlike(0, 3));
        due.is("twice is not the whole", false, () -> book.isAlike(0, 4));
        due.is("once is not the whole", false, () -> book.isAlike(4, 0));
        due.is("mirrored and told in full", true, () -> book.isAlike(5, 6));
        due.is("first below", Due.INDEX, () -> book.isAlike(-1, 0));
        due.is("first above", Due.INDEX, () -> book.isAlike(7, 0));
        due.is("second below", Due.INDEX, () -> book.isAlike(0, -1));
        due.is("second above", Due.INDEX, () -> book.isAlike(0, 7));
        int[] lowest = {0, 1, 0, 0, 4, 5, 5};
        for (int i = 0; i < 7; i++) {
            int sett = i;
            due.is("lowestAlike " + i, lowest[i], () -> book.lowestAlike(sett));
        }
        due.is("lowestAlike below", Due.INDEX, () -> book.lowestAlike(-1));
        due.is("lowestAlike above", Due.INDEX, () -> book.lowestAlike(7));
    }

    private static void threads(Due due) {
        Settbook book = Due.bookOfShades(3);
        Due.sett(book, true, 0, 4, 1, 6, 2, 8);
        int[] threads = {0, 3, 4, 9, 10, 17, 18, 23, 24, 27, 28, 99999};
        int[] shades = {0, 0, 1, 1, 2, 2, 1, 1, 0, 0, 1, 2};
        for (int i = 0; i < threads.length; i++) {
            int thread = threads[i];
            due.is("shadeOf " + thread, shades[i], () -> book.shadeOf(0, thread));
        }
        due.is("thread below", Due.ARGUMENT, () -> book.shadeOf(0, -1));
        due.is("thread above", Due.ARGUMENT, () -> book.shadeOf(0, 100000));
        due.is("sett below", Due.INDEX, () -> book.shadeOf(-1, -1));
        due.is("sett above", Due.INDEX, () -> book.shadeOf(1, 0));
    }

    private static void shares(Due due) {
        Settbook book = new Settbook();
        book.addShade('A', 31, 1, 0);
        book.addShade('B', 0, 2, 31);
        book.addShade('C', 9, 9, 9);
        Due.sett(book, true, 0, 4, 1, 6, 0, 8);
        due.is("share of two stripes", 500, () -> book.getShare(0, 0));
        due.is("share of a stripe gone twice", 500, () -> book.getShare(0, 1));
        due.is("share of none", 0, () -> book.getShare(0, 2));
        due.is("no shade", Due.INDEX, () -> book.getShare(0, 3));
        due.is("shade below", Due.INDEX, () -> book.getShare(0, -1));
        due.is("no sett", Due.INDEX, () -> book.getShare(1, 0));
        Due.sett(book, false, 0, 4, 1, 2);
        due.is("share is cut", 666, () -> book.getShare(1, 0));
        due.is("mean is cut", 20, () -> book.meanPart(1, 0));
        due.is("mean of green", 1, () -> book.meanPart(1, 1));
        due.is("mean of blue", 10, () -> book.meanPart(1, 2));
        due.is("mean, mirrored", 15, () -> book.meanPart(0, 0));
        Due.sett(book, false, 1, 2, 2, 4);
        due.is("mean of 40 by 6 is cut", 6, () -> book.meanPart(2, 1));
        Due.sett(book, true, 0, 2, 2, 2, 1, 2);
        due.is("mean of 98 by 8, cut", 12, () -> book.meanPart(3, 2));
        due.is("part below", Due.ARGUMENT, () -> book.meanPart(0, -1));
        due.is("part above", Due.ARGUMENT, () -> book.meanPart(0, 3));
        due.is("no sett goes before part", Due.INDEX, () -> book.meanPart(4, 3));
        due.is("sett below", Due.INDEX, () -> book.meanPart(-1, 0));
    }
}
