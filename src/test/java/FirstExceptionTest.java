/** Calls to which several exceptions of a method apply at once: the one that is documented first, and no change. */
public final class FirstExceptionTest {
    private static final int NO_SHADE = Books.SHADES_OF_SOME;
    private static final int NO_SETT = Books.SETTS_OF_SOME;
    private static final int NO_COPY = Books.COPIES_OF_SOME;

    private final Due due = new Due();
    private final Refusals none = new Refusals(due, Settbook::new);
    private final Refusals some = new Refusals(due, Books::some);
    private final Refusals full = new Refusals(due, Books::full);
    private final Refusals tight = new Refusals(due, Books::tight);

    public static void main(String[] args) {
        FirstExceptionTest test = new FirstExceptionTest();
        test.addShade();
        test.getPart();
        test.addStripe();
        test.makeSett();
        test.stripesOfSetts();
        test.threads();
        test.cloths();
        test.scale();
        test.scaleInFullBook();
        test.register();
        test.rights();
        test.pleatShade();
        test.isPlain();
        test.threadsUsed();
        test.order();
        test.orderInFullMill();
        test.orderWithoutWarp();
        test.addCopy();
        test.miscopy();
        test.fits();
        test.due.end();
    }

    private void addShade() {
        some.refuse("letter had, red too small", Due.ARGUMENT, book -> book.addShade('A', -1, 0, 0));
        some.refuse("letter had, green too large", Due.ARGUMENT, book -> book.addShade('M', 0, 32, 0));
        some.refuse("letter had, blue too small", Due.ARGUMENT, book -> book.addShade('Z', 0, 0, -1));
        full.refuse("12 shades, no letter", Due.ARGUMENT, book -> book.addShade('a', 0, 0, 0));
        full.refuse("12 shades, red too large", Due.ARGUMENT, book -> book.addShade('M', 32, 0, 0));
        full.refuse("12 shades, green too small", Due.ARGUMENT, book -> book.addShade('M', 0, -1, 0));
        full.refuse("12 shades, blue too large", Due.ARGUMENT, book -> book.addShade('M', 0, 0, 32));
        full.refuse("12 shades, letter of the first", Due.UNSUPPORTED, book -> book.addShade('A', 0, 0, 0));
        full.refuse("12 shades, letter of the last", Due.UNSUPPORTED, book -> book.addShade('L', 31, 31, 31));
        full.refuse("12 shades, letter had, red too small", Due.ARGUMENT, book -> book.addShade('A', -1, 0, 0));
        full.refuse("12 shades, letter had, blue too large", Due.ARGUMENT, book -> book.addShade('L', 0, 0, 32));
    }

    private void getPart() {
        some.refuse("getPart, no shade, no era", Due.INDEX, book -> book.getPart(NO_SHADE, 'x', 0));
        some.refuse("getPart, no shade, no part", Due.INDEX, book -> book.getPart(NO_SHADE, 'm', 3));
        some.refuse("getPart, no shade, era, part", Due.INDEX, book -> book.getPart(-1, 'x', -1));
        some.refuse("getPart, no era, part", Due.ARGUMENT, book -> book.getPart(0, 'x', 3));
        none.refuse("getPart, no shade at all, era, part", Due.INDEX, book -> book.getPart(0, 'x', 3));
    }

    private void addStripe() {
        some.refuse("addStripe, no shade, count too small", Due.INDEX, book -> book.addStripe(NO_SHADE, 0));
        some.refuse("addStripe, no shade, count too large", Due.INDEX, book -> book.addStripe(-1, 201));
        full.refuse("16 stripes, no shade", Due.INDEX, book -> book.addStripe(12, 2));
        full.refuse("16 stripes, count too small", Due.ARGUMENT, book -> book.addStripe(0, 0));
        full.refuse("16 stripes, count too large", Due.ARGUMENT, book -> book.addStripe(11, 201));
        full.refuse("16 stripes, no shade, count too large", Due.INDEX, book -> book.addStripe(12, 201));
        full.refuse("16 stripes, shade below 0, count too small", Due.INDEX, book -> book.addStripe(-1, 0));
    }

    private void makeSett() {
        noSettInFullBook("no stripe");
        noSettInFullBook("one stripe", 0, 4);
        noSettInFullBook("odd count at first", 0, 3, 1, 4);
        noSettInFullBook("odd count at last", 0, 4, 1, 3);
        noSettInFullBook("two of a shade", 0, 4, 1, 4, 1, 4, 2, 4);
        Refusals ends = fullWithRow(0, 4, 1, 4, 0, 2);
        ends.refuse("20 setts, repeated, ends of a shade", Due.UNSUPPORTED, book -> book.makeSett(false));
        ends.refuse("20 setts, mirrored, ends of a shade", Due.STATE, book -> book.makeSett(true));
    }

    private void noSettInFullBook(String name, int... stripes) {
        Refusals refusals = fullWithRow(stripes);
        refusals.refuse("20 setts, mirrored, " + name, Due.UNSUPPORTED, book -> book.makeSett(true));
        refusals.refuse("20 setts, repeated, " + name, Due.UNSUPPORTED, book -> book.makeSett(false));
    }

    private Refusals fullWithRow(int... stripes) {
        return new Refusals(due, () -> {
            Settbook book = Books.full();
            Due.tell(book, stripes);
            return book;
        });
    }

    private void stripesOfSetts() {
        for (int index : new int[] {-1, 4, 99}) {
            some.refuse("getShade, no sett, no stripe", Due.INDEX, book -> book.getShade(NO_SETT, index));
            some.refuse("getCount, no sett, no stripe", Due.INDEX, book -> book.getCount(NO_SETT, index));
            some.refuse("formShade, no sett, no stripe", Due.INDEX, book -> book.formShade(-1, index));
            some.refuse("formCount, no sett, no stripe", Due.INDEX, book -> book.formCount(-1, index));
        }
    }

    private void threads() {
        some.refuse("shadeOf, no sett, thread too small", Due.INDEX, book -> book.shadeOf(NO_SETT, -1));
        some.refuse("shadeOf, no sett, thread too large", Due.INDEX, book -> book.shadeOf(-1, 100000));
        some.refuse("meanPart, no sett, part too small", Due.INDEX, book -> book.meanPart(-1, -1));
        some.refuse("meanPart, no sett, part too large", Due.INDEX, book -> book.meanPart(NO_SETT, 3));
        some.refuse("getShare, no sett, no shade", Due.INDEX, book -> book.getShare(NO_SETT, NO_SHADE));
    }

    private void cloths() {
        some.refuse("joins, no sett, width too small", Due.INDEX, book -> book.joins(NO_SETT, 0, 1));
        some.refuse("joins, no sett, threads too large", Due.INDEX, book -> book.joins(-1, 1, 100));
        some.refuse("joins, no sett, both wrong", Due.INDEX, book -> book.joins(NO_SETT, 0, 0));
        some.refuse("over, no sett, width too large", Due.INDEX, book -> book.over(NO_SETT, 100, 1));
        some.refuse("over, no sett, threads too small", Due.INDEX, book -> book.over(-1, 1, 0));
        some.refuse("over, no sett, both wrong", Due.INDEX, book -> book.over(NO_SETT, 100, 100));
        some.refuse("twillAt, no sett, warp too small", Due.INDEX, book -> book.twillAt(NO_SETT, -1, 0));
        some.refuse("twillAt, no sett, weft too large", Due.INDEX, book -> book.twillAt(-1, 0, 100000));
        some.refuse("twillAt, no sett, both wrong", Due.INDEX, book -> book.twillAt(NO_SETT, 100000, -1));
    }

    private void scale() {
        some.refuse("scale, no sett, number too small", Due.INDEX, book -> book.scale(NO_SETT, 0, 1));
        some.refuse("scale, no sett, divisor too large", Due.INDEX, book -> book.scale(-1, 1, 21));
        some.refuse("scale, no sett, both wrong", Due.INDEX, book -> book.scale(NO_SETT, 21, 0));
        some.refuse("scale, number too large, so a count", Due.ARGUMENT, book -> book.scale(4, 21, 1));
        some.refuse("scale, divisor too small, so a count", Due.ARGUMENT, book -> book.scale(4, 20, 0));
        some.refuse("scale, divisor below 0", Due.ARGUMENT, book -> book.scale(4, 20, -1));
        some.refuse("scale, divisor too large", Due.ARGUMENT, book -> book.scale(4, 20, 21));
    }

    private void scaleInFullBook() {
        full.refuse("20 setts, no sett", Due.INDEX, book -> book.scale(20, 1, 1));
        full.refuse("20 setts, sett below 0", Due.INDEX, book -> book.scale(-1, 1, 1));
        full.refuse("20 setts, no sett, number too large", Due.INDEX, book -> book.scale(20, 21, 1));
        full.refuse("20 setts, no sett, divisor too small", Due.INDEX, book -> book.scale(20, 1, 0));
        full.refuse("20 setts, number too small", Due.ARGUMENT, book -> book.scale(1, 0, 1));
        full.refuse("20 setts, divisor too large", Due.ARGUMENT, book -> book.scale(1, 1, 21));
        full.refuse("20 setts, a count too large", Due.UNSUPPORTED, book -> book.scale(0, 20, 1));
        full.refuse("20 setts, the last count alone too large", Due.UNSUPPORTED, book -> book.scale(0, 13, 2));
        full.refuse("20 setts, the greatest count just right", Due.STATE, book -> book.scale(0, 6, 1));
        full.refuse("20 setts, number and a count too large", Due.ARGUMENT, book -> book.scale(0, 21, 1));
        full.refuse("20 setts, divisor too small, count too large", Due.ARGUMENT, book -> book.scale(0, 20, 0));
    }

    private void register() {
        some.refuse("register, no sett, no kind", Due.INDEX, book -> book.register(NO_SETT, 'x', 0, 1800));
        some.refuse("register, no sett, no owner", Due.INDEX, book -> book.register(-1, 'c', 10, 1800));
        some.refuse("register, no sett, too early", Due.INDEX, book -> book.register(NO_SETT, 'c', 0, 1499));
        some.refuse("register, no sett, all wrong", Due.INDEX, book -> book.register(NO_SETT, 'x', -1, 2001));
        some.refuse("registered, no kind", Due.ARGUMENT, book -> book.register(0, 'x', 0, 1800));
        some.refuse("registered, owner too small", Due.ARGUMENT, book -> book.register(1, 'c', -1, 1800));
        some.refuse("registered, owner too large", Due.ARGUMENT, book -> book.register(2, 'c', 10, 1800));
        some.refuse("registered, too early", Due.ARGUMENT, book -> book.register(3, 'c', 0, 1499));
        some.refuse("registered, too late", Due.ARGUMENT, book -> book.register(0, 'c', 0, 2001));
        some.refuse("registered, withdrawn", Due.UNSUPPORTED, book -> book.register(3, 'f', 7, 1900));
    }

    private void rights() {
        some.refuse("contestedBy, neither registered nor contested", Due.UNSUPPORTED, book -> book.contestedBy(4));
        some.refuse("consent, no sett, no applicant", Due.INDEX, book -> book.consent(NO_SETT, 10));
        some.refuse("consent, no sett, applicant below 0", Due.INDEX, book -> book.consent(-1, -1));
        some.refuse("consent, not registered, no applicant", Due.ARGUMENT, book -> book.consent(4, 10));
        some.refuse("consent, a district's, no applicant", Due.ARGUMENT, book -> book.consent(1, -1));
        some.refuse("consent, a person's, no applicant", Due.ARGUMENT, book -> book.consent(2, 10));
        some.refuse("mayWeave, no sett, no applicant", Due.INDEX, book -> book.mayWeave(NO_SETT, 10));
        some.refuse("mayWeave, no sett, applicant below 0", Due.INDEX, book -> book.mayWeave(-1, -1));
    }

    private void pleatShade() {
        for (boolean isSett : new boolean[] {true, false}) {
            String to = isSett ? ", to the sett" : ", to a stripe";
            pleat("no sett, seen too small" + to, Due.INDEX, NO_SETT, isSett, 0, 0, 0, 0);
            pleat("no sett, seen too large" + to, Due.INDEX, -1, isSett, 0, 41, 0, 0);
            pleat("no sett, pleat too small" + to, Due.INDEX, NO_SETT, isSett, 0, 4, -1, 0);
            pleat("no sett, pleat too large" + to, Due.INDEX, -1, isSett, 0, 4, 100, 0);
            pleat("no sett, no thread" + to, Due.INDEX, NO_SETT, isSett, 0, 4, 0, 4);
            pleat("no sett, thread below 0" + to, Due.INDEX, NO_SETT, isSett, 0, 4, 0, -1);
            pleat("no sett, all wrong" + to, Due.INDEX, NO_SETT, isSett, 4, 0, 100, -1);
            pleat("seen too small, so no thread" + to, Due.ARGUMENT, 0, isSett, 0, 0, 0, 0);
            pleat("seen too large, no thread" + to, Due.ARGUMENT, 0, isSett, 0, 41, 0, 41);
            pleat("pleat too small, no thread" + to, Due.ARGUMENT, 0, isSett, 0, 4, -1, -1);
            pleat("pleat too large, no thread" + to, Due.ARGUMENT, 0, isSett, 0, 4, 100, 4);
        }
        pleat("no sett, no stripe", Due.INDEX, NO_SETT, false, 4, 4, 0, 0);
        pleat("seen too small, no stripe", Due.ARGUMENT, 0, false, 4, 0, 0, 0);
        pleat("seen too large, no stripe", Due.ARGUMENT, 0, false, -1, 41, 0, 0);
        pleat("pleat too small, no stripe", Due.ARGUMENT, 0, false, 4, 4, -1, 0);
        pleat("pleat too large, no stripe", Due.ARGUMENT, 0, false, -1, 4, 100, 0);
        pleat("pleat too large, no stripe, no thread", Due.ARGUMENT, 0, false, 4, 4, 100, 4);
        pleat("no stripe, no thread", Due.ELEMENT, 0, false, 4, 4, 0, 4);
    }

    private void pleat(String name, Class<?> want, int sett, boolean isSett, int stripe, int seen, int pleat,
            int index) {
        some.refuse("pleatShade, " + name, want, book -> book.pleatShade(sett, isSett, stripe, seen, pleat, index));
    }

    private void isPlain() {
        for (boolean isSett : new boolean[] {true, false}) {
            some.refuse("isPlain, no sett, seen", Due.INDEX, book -> book.isPlain(NO_SETT, isSett, 0, 0, 0));
            some.refuse("isPlain, no sett, pleat", Due.INDEX, book -> book.isPlain(-1, isSett, 0, 4, 100));
            some.refuse("isPlain, no sett, all wrong", Due.INDEX, book -> book.isPlain(NO_SETT, isSett, 9, 41, -1));
        }
        some.refuse("isPlain, no sett, no stripe", Due.INDEX, book -> book.isPlain(NO_SETT, false, 4, 4, 0));
        some.refuse("isPlain, seen too small, no stripe", Due.ARGUMENT, book -> book.isPlain(0, false, 4, 0, 0));
        some.refuse("isPlain, seen too large, no stripe", Due.ARGUMENT, book -> book.isPlain(0, false, -1, 41, 0));
        some.refuse("isPlain, pleat too small, no stripe", Due.ARGUMENT, book -> book.isPlain(0, false, 4, 4, -1));
        some.refuse("isPlain, pleat too large, no stripe", Due.ARGUMENT, book -> book.isPlain(0, false, -1, 4, 100));
    }

    private void threadsUsed() {
        for (boolean isSett : new boolean[] {true, false}) {
            some.refuse("threadsUsed, no sett, seen", Due.INDEX, book -> book.threadsUsed(NO_SETT, isSett, 0, 1));
            some.refuse("threadsUsed, no sett, pleats", Due.INDEX, book -> book.threadsUsed(-1, isSett, 1, 101));
            some.refuse("threadsUsed, no sett, both", Due.INDEX, book -> book.threadsUsed(NO_SETT, isSett, 41, 0));
        }
    }

    private void order() {
        some.refuse("order, no sett, too short", Due.INDEX, book -> book.order(NO_SETT, 0, 0));
        some.refuse("order, no sett, too long", Due.INDEX, book -> book.order(-1, 100, 0));
        some.refuse("order, no sett, no applicant", Due.INDEX, book -> book.order(NO_SETT, 1, 10));
        some.refuse("order, no sett, all wrong", Due.INDEX, book -> book.order(NO_SETT, 0, -1));
        some.refuse("order, too short, a person's", Due.ARGUMENT, book -> book.order(2, 0, 5));
        some.refuse("order, too long, contested", Due.ARGUMENT, book -> book.order(1, 100, 6));
        some.refuse("order, no applicant of a clan's", Due.ARGUMENT, book -> book.order(0, 1, 10));
        some.refuse("order, applicant below 0 of a person's", Due.ARGUMENT, book -> book.order(2, 1, -1));
    }

    private void orderInFullMill() {
        full.refuse("20 orders, no sett", Due.INDEX, book -> book.order(20, 1, 0));
        full.refuse("20 orders, no sett, too short", Due.INDEX, book -> book.order(-1, 0, 0));
        full.refuse("20 orders, no sett, no applicant", Due.INDEX, book -> book.order(20, 1, 10));
        full.refuse("20 orders, too short", Due.ARGUMENT, book -> book.order(2, 0, 0));
        full.refuse("20 orders, too long", Due.ARGUMENT, book -> book.order(2, 100, 0));
        full.refuse("20 orders, no applicant", Due.ARGUMENT, book -> book.order(2, 1, 10));
        full.refuse("20 orders, applicant below 0", Due.ARGUMENT, book -> book.order(2, 1, -1));
        full.refuse("20 orders, a person's", Due.UNSUPPORTED, book -> book.order(1, 1, 0));
        full.refuse("20 orders, a clan's without consent", Due.UNSUPPORTED, book -> book.order(0, 1, 1));
        full.refuse("20 orders, the owner's own", Due.STATE, book -> book.order(1, 1, 1));
        full.refuse("20 orders, a clan's with consent", Due.STATE, book -> book.order(0, 1, 9));
        full.refuse("20 orders, a person's, too short", Due.ARGUMENT, book -> book.order(1, 0, 0));
        full.refuse("20 orders, a person's, no applicant", Due.ARGUMENT, book -> book.order(1, 1, 10));
    }

    private void orderWithoutWarp() {
        tight.refuse("10 warps, no sett", Due.INDEX, book -> book.order(2, 2, 0));
        tight.refuse("10 warps, no sett, too long", Due.INDEX, book -> book.order(2, 100, 0));
        tight.refuse("10 warps, too long", Due.ARGUMENT, book -> book.order(0, 100, 0));
        tight.refuse("10 warps, no applicant", Due.ARGUMENT, book -> book.order(0, 2, 10));
        tight.refuse("10 warps, a person's", Due.UNSUPPORTED, book -> book.order(1, 1, 0));
        tight.refuse("10 warps, a person's, too long", Due.ARGUMENT, book -> book.order(1, 100, 0));
        tight.refuse("10 warps, a person's, no applicant", Due.ARGUMENT, book -> book.order(1, 1, -1));
    }

    private void addCopy() {
        full.refuse("16 copies, no sett", Due.INDEX, book -> book.addCopy(20));
        full.refuse("16 copies, sett below 0", Due.INDEX, book -> book.addCopy(-1));
    }

    private void miscopy() {
        some.refuse("miscopy, no copy, count too small", Due.INDEX, book -> book.miscopy(NO_COPY, 0, 0));
        some.refuse("miscopy, no copy, count too large", Due.INDEX, book -> book.miscopy(-1, 0, 201));
        some.refuse("miscopy, no copy, no stripe", Due.INDEX, book -> book.miscopy(NO_COPY, 3, 2));
        some.refuse("miscopy, no copy, all wrong", Due.INDEX, book -> book.miscopy(NO_COPY, -1, 0));
        some.refuse("miscopy, count too small, no stripe", Due.ARGUMENT, book -> book.miscopy(0, 3, 0));
        some.refuse("miscopy, count too large, no stripe", Due.ARGUMENT, book -> book.miscopy(1, -1, 201));
    }

    private void fits() {
        Refusals cleared = new Refusals(due, () -> {
            Settbook book = Books.some();
            book.clearStripes();
            return book;
        });
        cleared.refuse("fits, no stripes, no sett", Due.INDEX, book -> book.fits(NO_SETT));
        cleared.refuse("fits, no stripes, sett below 0", Due.INDEX, book -> book.fits(-1));
        none.refuse("fits, no stripes, no setts", Due.INDEX, book -> book.fits(0));
    }
}
