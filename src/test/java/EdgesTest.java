import java.util.function.Supplier;

/** Every number's last value within and first one out, and every refusal: what it throws, and that nothing changes. */
public final class EdgesTest {
    private static final int SHADES = Books.SHADES_OF_SOME - 1;
    private static final int SETTS = Books.SETTS_OF_SOME - 1;

    private final Due due = new Due();
    private final Refusals none = new Refusals(due, Settbook::new);
    private final Refusals some = new Refusals(due, Books::some);
    private final Refusals full = new Refusals(due, Books::full);
    private final Refusals tight = new Refusals(due, Books::tight);

    public static void main(String[] args) {
        EdgesTest test = new EdgesTest();
        test.shades();
        test.stripes();
        test.rowsThatAreNoSetts();
        test.setts();
        test.stripesOfSetts();
        test.threads();
        test.cloths();
        test.scaling();
        test.registering();
        test.rights();
        test.pleats();
        test.mills();
        test.copies();
        test.scraps();
        test.emptyBook();
        test.due.end();
    }

    private void shades() {
        some.edges("addShade, letter", Due.ARGUMENT, 'A', 'Z', (book, n) -> book.addShade((char) n, 0, 0, 0));
        for (char letter : new char[] {'a', 'z', 0, 65535, 'A' + 256, '0', ' '}) {
            some.refuse("addShade, no letter " + (int) letter, Due.ARGUMENT, book -> book.addShade(letter, 0, 0, 0));
        }
        some.edges("addShade, red", Due.ARGUMENT, 0, 31, (book, n) -> book.addShade('B', n, 0, 0));
        some.edges("addShade, green", Due.ARGUMENT, 0, 31, (book, n) -> book.addShade('B', 0, n, 0));
        some.edges("addShade, blue", Due.ARGUMENT, 0, 31, (book, n) -> book.addShade('B', 0, 0, n));
        for (char letter : new char[] {'A', 'M', 'Z'}) {
            some.refuse("addShade, another has " + letter, Due.UNSUPPORTED, book -> book.addShade(letter, 1, 2, 3));
        }
        full.refuse("addShade, there are 12", Due.STATE, book -> book.addShade('M', 1, 2, 3));
        some.edges("getPart, shade", Due.INDEX, 0, SHADES, (book, n) -> book.getPart(n, 'm', 0));
        full.edges("getPart, shade", Due.INDEX, 0, 11, (book, n) -> book.getPart(n, 'w', 2));
        some.edges("getPart, part", Due.ARGUMENT, 0, 2, (book, n) -> book.getPart(0, 'a', n));
        for (char era : new char[] {'l', 'n', 'b', 'v', 'x', '`', 'M', 'A', 'W', 0, 65535, 'm' + 256}) {
            some.refuse("getPart, no era " + (int) era, Due.ARGUMENT, book -> book.getPart(0, era, 0));
        }
        some.edges("shadeDistance, shade", Due.INDEX, 0, SHADES, (book, n) -> book.shadeDistance(n, 0));
        some.edges("shadeDistance, other", Due.INDEX, 0, SHADES, (book, n) -> book.shadeDistance(0, n));
        full.edges("shadeDistance, both", Due.INDEX, 0, 11, (book, n) -> book.shadeDistance(n, n));
    }

    private void stripes() {
        some.edges("addStripe, shade", Due.INDEX, 0, SHADES, (book, n) -> book.addStripe(n, 2));
        some.edges("addStripe, count", Due.ARGUMENT, 1, 200, (book, n) -> book.addStripe(0, n));
        full.refuse("addStripe, it has 16", Due.STATE, book -> book.addStripe(11, 2));
    }

    private void rowsThatAreNoSetts() {
        noSett("no stripe");
        noSett("one stripe", 0, 4);
        noSett("an odd count at first", 0, 3, 1, 4, 2, 2);
        noSett("an odd count between", 0, 4, 1, 3, 2, 2);
        noSett("an odd count at last", 0, 4, 1, 4, 2, 1);
        noSett("two of a shade at first", 0, 4, 0, 4, 2, 2);
        noSett("two of a shade at last", 0, 4, 1, 4, 1, 2);
        Refusals ends = new Refusals(due, row(0, 4, 1, 4, 0, 2));
        ends.refuse("makeSett, repeated, its ends of a shade", Due.UNSUPPORTED, book -> book.makeSett(false));
        full.refuse("makeSett, mirrored, there are 20", Due.STATE, book -> book.makeSett(true));
        full.refuse("makeSett, repeated, there are 20", Due.STATE, book -> book.makeSett(false));
    }

    private void noSett(String name, int... stripes) {
        Refusals refusals = new Refusals(due, row(stripes));
        refusals.refuse("makeSett, mirrored, " + name, Due.UNSUPPORTED, book -> book.makeSett(true));
        refusals.refuse("makeSett, repeated, " + name, Due.UNSUPPORTED, book -> book.makeSett(false));
    }

    private static Supplier<Settbook> row(int... stripes) {
        return () -> {
            Settbook book = Books.some();
            Due.tell(book, stripes);
            return book;
        };
    }

    private void setts() {
        sett("getThreads", (book, n) -> book.getThreads(n));
        sett("countStripes", (book, n) -> book.countStripes(n));
        sett("getShade", (book, n) -> book.getShade(n, 0));
        sett("getCount", (book, n) -> book.getCount(n, 0));
        sett("formShade", (book, n) -> book.formShade(n, 0));
        sett("formCount", (book, n) -> book.formCount(n, 0));
        sett("isAlike, sett", (book, n) -> book.isAlike(n, 0));
        sett("isAlike, other", (book, n) -> book.isAlike(0, n));
        sett("lowestAlike", (book, n) -> book.lowestAlike(n));
        sett("shadeOf", (book, n) -> book.shadeOf(n, 0));
        sett("getShare", (book, n) -> book.getShare(n, 0));
        sett("meanPart", (book, n) -> book.meanPart(n, 0));
        sett("joins", (book, n) -> book.joins(n, 1, 1));
        sett("over", (book, n) -> book.over(n, 1, 1));
        sett("scale", (book, n) -> book.scale(n, 1, 1));
        sett("twillAt", (book, n) -> book.twillAt(n, 0, 0));
        sett("distance, sett", (book, n) -> book.distance(n, 0));
        sett("distance, other", (book, n) -> book.distance(0, n));
        sett("register", (book, n) -> book.register(n, 'c', 0, 1800));
        sett("withdraw", (book, n) -> book.withdraw(n));
        sett("isContested", (book, n) -> book.isContested(n));
        sett("contestedBy", (book, n) -> book.contestedBy(n));
        sett("consent", (book, n) -> book.consent(n, 0));
        sett("mayWeave", (book, n) -> book.mayWeave(n, 0));
        sett("rightOf", (book, n) -> book.rightOf(n));
        sett("pleatShade", (book, n) -> book.pleatShade(n, true, 0, 1, 0, 0));
        sett("isPlain", (book, n) -> book.isPlain(n, false, 0, 1, 0));
        sett("threadsUsed", (book, n) -> book.threadsUsed(n, true, 1, 1));
        sett("order", (book, n) -> book.order(n, 1, 0));
        sett("addCopy", (book, n) -> book.addCopy(n));
        sett("fits", (book, n) -> book.fits(n));
    }

    private void sett(String name, Refusals.AskNumber ask) {
        some.edges(name + " of sett", Due.INDEX, 0, SETTS, ask);
        full.edges(name + " of sett", Due.INDEX, 0, 19, ask);
    }

    private void stripesOfSetts() {
        int[] last = {3, 1, 1, 1, 3};
        for (int i = 0; i < last.length; i++) {
            int sett = i;
            some.edges("getShade " + i, Due.ELEMENT, 0, last[i], (book, n) -> book.getShade(sett, n));
            some.edges("getCount " + i, Due.ELEMENT, 0, last[i], (book, n) -> book.getCount(sett, n));
            some.edges("formShade " + i, Due.ELEMENT, 0, last[i], (book, n) -> book.formShade(sett, n));
            some.edges("formCount " + i, Due.ELEMENT, 0, last[i], (book, n) -> book.formCount(sett, n));
        }
        full.edges("getShade of 30", Due.ELEMENT, 0, 29, (book, n) -> book.getShade(0, n));
        full.edges("getCount of 30", Due.ELEMENT, 0, 29, (book, n) -> book.getCount(0, n));
        full.edges("formShade of 30", Due.ELEMENT, 0, 29, (book, n) -> book.formShade(0, n));
        full.edges("formCount of 30", Due.ELEMENT, 0, 29, (book, n) -> book.formCount(0, n));
    }

    private void threads() {
        some.edges("shadeOf, thread", Due.ARGUMENT, 0, 99999, (book, n) -> book.shadeOf(0, n));
        some.edges("getShare, shade", Due.INDEX, 0, SHADES, (book, n) -> book.getShare(0, n));
        full.edges("getShare, shade", Due.INDEX, 0, 11, (book, n) -> book.getShare(0, n));
        some.edges("meanPart, part", Due.ARGUMENT, 0, 2, (book, n) -> book.meanPart(0, n));
        some.edges("twillAt, warp", Due.ARGUMENT, 0, 99999, (book, n) -> book.twillAt(0, n, 0));
        some.edges("twillAt, weft", Due.ARGUMENT, 0, 99999, (book, n) -> book.twillAt(0, 0, n));
    }

    private void cloths() {
        some.edges("joins, width", Due.ARGUMENT, 1, 99, (book, n) -> book.joins(0, n, 1));
        some.edges("joins, perUnit", Due.ARGUMENT, 1, 99, (book, n) -> book.joins(0, 99, n));
        some.edges("over, width", Due.ARGUMENT, 1, 99, (book, n) -> book.over(0, n, 99));
        some.edges("over, perUnit", Due.ARGUMENT, 1, 99, (book, n) -> book.over(0, 1, n));
    }

    private void scaling() {
        some.edges("scale, number", Due.ARGUMENT, 1, 20, (book, n) -> book.scale(0, n, 1));
        some.edges("scale, divisor", Due.ARGUMENT, 1, 20, (book, n) -> book.scale(0, 20, n));
        some.refuse("scale, both 0", Due.ARGUMENT, book -> book.scale(0, 0, 0));
        some.refuse("scale, a count of 12 by 20", Due.UNSUPPORTED, book -> book.scale(4, 20, 1));
        some.refuse("scale, a count of 12 by 17", Due.UNSUPPORTED, book -> book.scale(4, 17, 1));
        Refusals first = new Refusals(due, settOf(200, 2));
        first.refuse("scale, the first count would be 210", Due.UNSUPPORTED, book -> book.scale(5, 20, 19));
        Refusals last = new Refusals(due, settOf(2, 134));
        last.refuse("scale, the last count would be 201, so 202", Due.UNSUPPORTED, book -> book.scale(5, 3, 2));
        full.refuse("scale, there are 20", Due.STATE, book -> book.scale(1, 1, 2));
        full.refuse("scale, there are 20, with a loss", Due.STATE, book -> book.scale(1, 1, 20));
        none.refuse("getLoss, there was none", Due.ELEMENT, book -> book.getLoss());
        tight.refuse("getLoss, setts alone", Due.ELEMENT, book -> book.getLoss());
        tight.refuse("getLoss, after wrong numbers", Due.ELEMENT, book -> {
            Due.answer(() -> book.scale(2, 1, 1));
            Due.answer(() -> book.scale(0, 1, 0));
            Due.answer(() -> book.scale(0, 21, 1));
            return book.getLoss();
        });
        Refusals longest = new Refusals(due, EdgesTest::longest);
        longest.refuse("getLoss, after a count would be too great", Due.ELEMENT, book -> {
            Due.answer(() -> book.scale(0, 20, 19));
            return book.getLoss();
        });
    }

    private static Settbook longest() {
        Settbook book = Due.bookOfShades(2);
        Due.sett(book, false, 0, 200, 1, 200);
        return book;
    }

    private static Supplier<Settbook> settOf(int first, int last) {
        return () -> {
            Settbook book = Books.some();
            Due.sett(book, false, 0, first, 1, last);
            return book;
        };
    }

    private void registering() {
        some.edges("setRuling", Due.ARGUMENT, 0, 9999, (book, n) -> book.setRuling(n));
        some.edges("register, owner", Due.ARGUMENT, 0, 9, (book, n) -> book.register(4, 'n', n, 1800));
        some.edges("register, proof", Due.ARGUMENT, 1500, 2000, (book, n) -> book.register(4, 'n', 0, n));
        for (char kind : new char[] {'b', 'e', 'g', 'o', 'm', 'q', 'C', 'D', 'F', 'P', 'N', 0, 65535, 'c' + 256}) {
            some.refuse("register, no kind " + (int) kind, Due.ARGUMENT, book -> book.register(4, kind, 0, 1800));
        }
        for (int i = 0; i < 4; i++) {
            int sett = i;
            some.refuse("register, " + i + " is registered", Due.UNSUPPORTED,
                book -> book.register(sett, 'n', 0, 1600));
        }
        some.refuse("withdraw, not registered", Due.UNSUPPORTED, book -> book.withdraw(4));
        some.refuse("withdraw, withdrawn", Due.UNSUPPORTED, book -> book.withdraw(3));
        some.refuse("isContested, not registered", Due.UNSUPPORTED, book -> book.isContested(4));
        some.refuse("contestedBy, not registered", Due.UNSUPPORTED, book -> book.contestedBy(4));
        some.refuse("contestedBy, not contested", Due.ELEMENT, book -> book.contestedBy(2));
        some.refuse("contestedBy, not contested by far ones", Due.ELEMENT, book -> book.contestedBy(0));
        tight.refuse("contestedBy, alone", Due.ELEMENT, book -> book.contestedBy(1));
    }

    private void rights() {
        some.edges("consent, applicant", Due.ARGUMENT, 0, 9, (book, n) -> book.consent(0, n));
        for (int i = 1; i < 4; i++) {
            int sett = i;
            some.refuse("consent, " + i + " is no clan's", Due.UNSUPPORTED, book -> book.consent(sett, 4));
        }
        some.refuse("consent, not registered", Due.UNSUPPORTED, book -> book.consent(4, 4));
        some.edges("mayWeave, applicant", Due.ARGUMENT, 0, 9, (book, n) -> book.mayWeave(0, n));
        some.edges("mayWeave of anybody, applicant", Due.ARGUMENT, 0, 9, (book, n) -> book.mayWeave(4, n));
        some.refuse("rightOf, there is none", Due.ELEMENT, book -> book.rightOf(4));
        tight.refuse("rightOf, that of one near", Due.ELEMENT, book -> book.rightOf(0));
    }

    private void pleats() {
        for (boolean isSett : new boolean[] {true, false}) {
            String to = isSett ? " to the sett" : " to a stripe";
            some.edges("pleatShade, seen" + to, Due.ARGUMENT, 1, 40,
                (book, n) -> book.pleatShade(0, isSett, 3, n, 0, 0));
            some.edges("pleatShade, pleat" + to, Due.ARGUMENT, 0, 99,
                (book, n) -> book.pleatShade(0, isSett, 3, 4, n, 0));
            some.edges("pleatShade, index" + to, Due.ELEMENT, 0, 0,
                (book, n) -> book.pleatShade(0, isSett, 0, 1, 0, n));
            some.edges("pleatShade, index" + to, Due.ELEMENT, 0, 39,
                (book, n) -> book.pleatShade(0, isSett, 0, 40, 99, n));
            some.edges("isPlain, seen" + to, Due.ARGUMENT, 1, 40, (book, n) -> book.isPlain(0, isSett, 3, n, 0));
            some.edges("isPlain, pleat" + to, Due.ARGUMENT, 0, 99, (book, n) -> book.isPlain(0, isSett, 3, 4, n));
            some.edges("threadsUsed, seen" + to, Due.ARGUMENT, 1, 40, (book, n) -> book.threadsUsed(0, isSett, n, 1));
            some.edges("threadsUsed, pleats" + to, Due.ARGUMENT, 1, 100,
                (book, n) -> book.threadsUsed(0, isSett, 1, n));
        }
        some.edges("pleatShade, stripe", Due.ELEMENT, 0, 3, (book, n) -> book.pleatShade(0, false, n, 4, 0, 0));
        some.edges("pleatShade, stripe of two", Due.ELEMENT, 0, 1, (book, n) -> book.pleatShade(1, false, n, 1, 9, 0));
        some.edges("isPlain, stripe", Due.ELEMENT, 0, 3, (book, n) -> book.isPlain(0, false, n, 4, 0));
        full.edges("isPlain, stripe of 30", Due.ELEMENT, 0, 29, (book, n) -> book.isPlain(0, false, n, 4, 0));
    }

    private void mills() {
        some.edges("order, length", Due.ARGUMENT, 1, 99, (book, n) -> book.order(4, n, 0));
        some.edges("order, applicant", Due.ARGUMENT, 0, 9, (book, n) -> book.order(4, 1, n));
        some.refuse("order, a clan's without consent", Due.UNSUPPORTED, book -> book.order(0, 1, 5));
        some.refuse("order, contested", Due.UNSUPPORTED, book -> book.order(1, 1, 6));
        some.refuse("order, a person's", Due.UNSUPPORTED, book -> book.order(2, 1, 5));
        some.refuse("order, of one alike that is contested", Due.UNSUPPORTED, book -> book.order(3, 1, 7));
        full.refuse("order, there are 20, on a warp", Due.STATE, book -> book.order(2, 1, 0));
        full.refuse("order, there are 20, a warp more", Due.STATE, book -> book.order(13, 99, 0));
        tight.refuse("order, there are 10 warps, too little left", Due.STATE, book -> book.order(0, 2, 0));
        tight.refuse("order, there are 10 warps of another", Due.STATE, book -> book.order(1, 1, 1));
        tight.refuse("order, there are 10 warps, the longest", Due.STATE, book -> book.order(0, 99, 9));
        int orders = Books.ORDERS_OF_SOME - 1;
        some.edges("warpOf", Due.INDEX, 0, orders, (book, n) -> book.warpOf(n));
        full.edges("warpOf", Due.INDEX, 0, 19, (book, n) -> book.warpOf(n));
        some.edges("left", Due.INDEX, 0, Books.WARPS_OF_SOME - 1, (book, n) -> book.left(n));
        full.edges("left", Due.INDEX, 0, 9, (book, n) -> book.left(n));
    }

    private void copies() {
        int copies = Books.COPIES_OF_SOME - 1;
        full.refuse("addCopy, there are 16", Due.STATE, book -> book.addCopy(0));
        some.edges("miscopy, copy", Due.INDEX, 0, copies, (book, n) -> book.miscopy(n, 0, 2));
        full.edges("miscopy, copy", Due.INDEX, 0, 15, (book, n) -> book.miscopy(n, 0, 2));
        some.edges("miscopy, count", Due.ARGUMENT, 1, 200, (book, n) -> book.miscopy(1, 2, n));
        some.edges("miscopy, stripe as it was told", Due.ELEMENT, 0, 2, (book, n) -> book.miscopy(1, n, 3));
        full.edges("miscopy, stripe of 16", Due.ELEMENT, 0, 15, (book, n) -> book.miscopy(0, n, 3));
        full.edges("miscopy, stripe of 2", Due.ELEMENT, 0, 1, (book, n) -> book.miscopy(1, n, 3));
        some.edges("parentOf", Due.INDEX, 0, copies, (book, n) -> book.parentOf(n));
        full.edges("parentOf", Due.INDEX, 0, 15, (book, n) -> book.parentOf(n));
        some.edges("depth", Due.INDEX, 0, copies, (book, n) -> book.depth(n));
        full.edges("depth", Due.INDEX, 0, 15, (book, n) -> book.depth(n));
    }

    private void scraps() {
        Refusals cleared = new Refusals(due, row());
        for (int i = 0; i < Books.SETTS_OF_SOME; i++) {
            int sett = i;
            cleared.refuse("fits " + i + ", no stripes", Due.UNSUPPORTED, book -> book.fits(sett));
        }
        cleared.refuse("countFits, no stripes", Due.UNSUPPORTED, book -> book.countFits());
    }

    private void emptyBook() {
        none.refuse("getPart, no shades", Due.INDEX, book -> book.getPart(0, 'm', 0));
        none.refuse("shadeDistance, no shades", Due.INDEX, book -> book.shadeDistance(0, 0));
        none.refuse("addStripe, no shades", Due.INDEX, book -> book.addStripe(0, 2));
        none.refuse("makeSett, no stripes", Due.UNSUPPORTED, book -> book.makeSett(true));
        none.refuse("getThreads, no setts", Due.INDEX, book -> book.getThreads(0));
        none.refuse("scale, no setts", Due.INDEX, book -> book.scale(0, 1, 1));
        none.refuse("register, no setts", Due.INDEX, book -> book.register(0, 'c', 0, 1800));
        none.refuse("order, no setts", Due.INDEX, book -> book.order(0, 1, 0));
        none.refuse("warpOf, no orders", Due.INDEX, book -> book.warpOf(0));
        none.refuse("left, no warps", Due.INDEX, book -> book.left(0));
        none.refuse("addCopy, no setts", Due.INDEX, book -> book.addCopy(0));
        none.refuse("miscopy, no copies", Due.INDEX, book -> book.miscopy(0, 0, 2));
        none.refuse("parentOf, no copies", Due.INDEX, book -> book.parentOf(0));
        none.refuse("depth, no copies", Due.INDEX, book -> book.depth(0));
        none.refuse("fits, no setts", Due.INDEX, book -> book.fits(0));
        none.refuse("countFits, no stripes", Due.UNSUPPORTED, book -> book.countFits());
        none.refuse("contestedShare, none registered", Due.ARITHMETIC, book -> book.contestedShare());
        none.refuse("meanThreads, no setts", Due.ARITHMETIC, book -> book.meanThreads());
        Refusals unregistered = new Refusals(due, () -> Due.bookOfShades(2));
        unregistered.refuse("contestedShare, shades alone", Due.ARITHMETIC, book -> book.contestedShare());
        unregistered.refuse("meanThreads, shades alone", Due.ARITHMETIC, book -> book.meanThreads());
    }
}
