/** The run of calls that README.md shows. */
public final class ReadmeTest {
    public static void main(String[] args) {
        Due due = new Due();
        Settbook book = new Settbook();
        int red = book.addShade('R', 31, 0, 0);
        int green = book.addShade('G', 0, 20, 0);
        book.addStripe(red, 4);
        book.addStripe(green, 8);
        int sett = book.makeSett(true);
        due.is("getThreads", 12, () -> book.getThreads(sett));
        int wide = book.scale(sett, 3, 2);
        due.is("getCount of red, scaled", 6, () -> book.getCount(wide, 0));
        due.is("getCount of green, scaled", 12, () -> book.getCount(wide, 1));
        due.is("distance", 0, () -> book.distance(sett, wide));
        due.is("joins", true, () -> book.joins(sett, 6, 10));
        book.register(sett, 'c', 3, 1800);
        due.is("mayWeave", false, () -> book.mayWeave(sett, 4));
        due.is("consent", false, () -> book.consent(sett, 4));
        int order = book.order(sett, 40, 4);
        due.is("left", 20, () -> book.left(book.warpOf(order)));
        int copy = book.addCopy(sett);
        due.is("miscopy", 1, () -> book.miscopy(copy, 0, 6));
        due.is("parentOf", -1, () -> book.parentOf(copy));
        book.clearStripes();
        book.addStripe(green, 5);
        due.is("fits", true, () -> book.fits(sett));
        due.end();
    }
}
