/** The three runs under "Examples" in the document. */
public final class ExamplesTest {
    public static void main(String[] args) {
        Due due = new Due();
        mirroredSett(due);
        likeSetts(due);
        pleatsCopiesScrap(due);
        due.end();
    }

    private static void mirroredSett(Due due) {
        Settbook book = new Settbook();
        due.is("addShade('R', 31, 0, 0)", 0, () -> book.addShade('R', 31, 0, 0));
        due.is("addShade('G', 0, 20, 0)", 1, () -> book.addShade('G', 0, 20, 0));
        due.is("addShade('W', 31, 31, 31)", 2, () -> book.addShade('W', 31, 31, 31));
        due.is("getPart(1, 'a', 1)", 28, () -> book.getPart(1, 'a', 1));
        due.is("getPart(0, 'w', 0)", 21, () -> book.getPart(0, 'w', 0));
        due.is("shadeDistance(0, 1)", 51, () -> book.shadeDistance(0, 1));
        due.is("addStripe(0, 4)", 1, () -> book.addStripe(0, 4));
        due.is("addStripe(1, 8)", 2, () -> book.addStripe(1, 8));
        due.is("addStripe(2, 2)", 3, () -> book.addStripe(2, 2));
        due.is("makeSett(true)", 0, () -> book.makeSett(true));
        due.is("getThreads(0)", 22, () -> book.getThreads(0));
        due.is("countStripes(0)", 4, () -> book.countStripes(0));
        due.is("getShade(0, 3)", 1, () -> book.getShade(0, 3));
        due.is("makeSett(false)", 1, () -> book.makeSett(false));
        due.is("getThreads(1)", 14, () -> book.getThreads(1));
        due.is("formShade(1, 0)", 0, () -> book.formShade(1, 0));
        due.is("formCount(1, 1)", 8, () -> book.formCount(1, 1));
        due.is("isAlike(0, 1)", false, () -> book.isAlike(0, 1));
        due.is("shadeOf(0, 13)", 2, () -> book.shadeOf(0, 13));
        due.is("shadeOf(0, 22)", 0, () -> book.shadeOf(0, 22));
        due.is("getShare(0, 1)", 727, () -> book.getShare(0, 1));
        due.is("meanPart(0, 0)", 8, () -> book.meanPart(0, 0));
        due.is("joins(0, 11, 2)", true, () -> book.joins(0, 11, 2));
        due.is("over(0, 12, 2)", 2, () -> book.over(0, 12, 2));
        due.is("scale(0, 3, 2)", 2, () -> book.scale(0, 3, 2));
        due.is("getLoss()", 2, () -> book.getLoss());
        due.is("getCount(2, 1)", 12, () -> book.getCount(2, 1));
        due.is("isAlike(0, 2)", false, () -> book.isAlike(0, 2));
        due.is("twillAt(0, 0, 5)", 1, () -> book.twillAt(0, 0, 5));
        due.is("twillAt(0, 2, 4)", 0, () -> book.twillAt(0, 2, 4));
        due.is("distance(0, 0)", 0, () -> book.distance(0, 0));
        due.is("distance(0, 2)", 20, () -> book.distance(0, 2));
        due.is("distance(0, 1)", 818, () -> book.distance(0, 1));
        due.is("checksum()", 6319192176615511L, () -> book.checksum());
        due.is("meanThreads()", 23.333333333333332, () -> book.meanThreads());
        due.is("isSound()", true, () -> book.isSound());
    }

    private static void likeSetts(Due due) {
        Settbook book = new Settbook();
        due.is("addShade('A', 0, 0, 0)", 0, () -> book.addShade('A', 0, 0, 0));
        due.is("addShade('B', 31, 31, 31)", 1, () -> book.addShade('B', 31, 31, 31));
        due.is("addShade('C', 10, 0, 0)", 2, () -> book.addShade('C', 10, 0, 0));
        due.is("addStripe(0, 4)", 1, () -> book.addStripe(0, 4));
        due.is("addStripe(1, 6)", 2, () -> book.addStripe(1, 6));
        due.is("addStripe(2, 8)", 3, () -> book.addStripe(2, 8));
        due.is("makeSett(false)", 0, () -> book.makeSett(false));
        due.is("clearStripes()", 3, () -> book.clearStripes());
        due.is("addStripe(2, 8)", 1, () -> book.addStripe(2, 8));
        due.is("addStripe(1, 6)", 2, () -> book.addStripe(1, 6));
        due.is("addStripe(0, 4)", 3, () -> book.addStripe(0, 4));
        due.is("makeSett(false)", 1, () -> book.makeSett(false));
        due.is("isAlike(0, 1)", true, () -> book.isAlike(0, 1));
        due.is("lowestAlike(1)", 0, () -> book.lowestAlike(1));
        due.is("register(0, 'c', 3, 1800)", 1, () -> book.register(0, 'c', 3, 1800));
        due.is("rightOf(1)", 0, () -> book.rightOf(1));
        due.is("mayWeave(1, 4)", false, () -> book.mayWeave(1, 4));
        due.is("consent(0, 4)", false, () -> book.consent(0, 4));
        due.is("mayWeave(1, 4)", true, () -> book.mayWeave(1, 4));
        due.is("register(1, 'd', 5, 1750)", 2, () -> book.register(1, 'd', 5, 1750));
        due.is("rightOf(0)", 1, () -> book.rightOf(0));
        due.is("isContested(0)", true, () -> book.isContested(0));
        due.is("contestedBy(0)", 1, () -> book.contestedBy(0));
        due.is("isContested(1)", false, () -> book.isContested(1));
        due.is("mayWeave(0, 4)", true, () -> book.mayWeave(0, 4));
        due.is("mayWeave(0, 3)", true, () -> book.mayWeave(0, 3));
        due.is("setRuling(0)", 100, () -> book.setRuling(0));
        due.is("isContested(0)", false, () -> book.isContested(0));
        due.is("contestedShare()", 0.0f, () -> book.contestedShare());
        due.is("order(0, 40, 6)", 0, () -> book.order(0, 40, 6));
        due.is("order(1, 30, 6)", 1, () -> book.order(1, 30, 6));
        due.is("warpOf(1)", 1, () -> book.warpOf(1));
        due.is("order(0, 20, 6)", 2, () -> book.order(0, 20, 6));
        due.is("warpOf(2)", 0, () -> book.warpOf(2));
        due.is("left(0)", 0, () -> book.left(0));
        due.is("cut()", 30, () -> book.cut());
        due.is("getWaste()", 30, () -> book.getWaste());
        due.is("withdraw(1)", false, () -> book.withdraw(1));
        due.is("mayWeave(0, 6)", false, () -> book.mayWeave(0, 6));
        due.is("mayWeave(0, 5)", true, () -> book.mayWeave(0, 5));
        due.is("isSound()", true, () -> book.isSound());
    }

    private static void pleatsCopiesScrap(Due due) {
        Settbook book = new Settbook();
        due.is("addShade('K', 0, 0, 0)", 0, () -> book.addShade('K', 0, 0, 0));
        due.is("addShade('Y', 31, 31, 0)", 1, () -> book.addShade('Y', 31, 31, 0));
        due.is("addStripe(0, 10)", 1, () -> book.addStripe(0, 10));
        due.is("addStripe(1, 4)", 2, () -> book.addStripe(1, 4));
        due.is("addStripe(0, 6)", 3, () -> book.addStripe(0, 6));
        due.is("makeSett(true)", 0, () -> book.makeSett(true));
        due.is("makeSett(false)", Due.UNSUPPORTED, () -> book.makeSett(false));
        due.is("pleatShade(0, true, 0, 4, 3, 0)", 1, () -> book.pleatShade(0, true, 0, 4, 3, 0));
        due.is("pleatShade(0, false, 1, 4, 9, 3)", 1, () -> book.pleatShade(0, false, 1, 4, 9, 3));
        due.is("isPlain(0, false, 1, 4, 0)", true, () -> book.isPlain(0, false, 1, 4, 0));
        due.is("isPlain(0, false, 1, 5, 0)", false, () -> book.isPlain(0, false, 1, 5, 0));
        due.is("isPlain(0, true, 0, 4, 0)", true, () -> book.isPlain(0, true, 0, 4, 0));
        due.is("threadsUsed(0, true, 4, 20)", 560, () -> book.threadsUsed(0, true, 4, 20));
        due.is("threadsUsed(0, false, 4, 20)", 480, () -> book.threadsUsed(0, false, 4, 20));
        due.is("addCopy(0)", 0, () -> book.addCopy(0));
        due.is("miscopy(0, 1, 6)", 1, () -> book.miscopy(0, 1, 6));
        due.is("addCopy(0)", 1, () -> book.addCopy(0));
        due.is("miscopy(1, 1, 6)", 1, () -> book.miscopy(1, 1, 6));
        due.is("miscopy(1, 0, 12)", 2, () -> book.miscopy(1, 0, 12));
        due.is("parentOf(1)", 0, () -> book.parentOf(1));
        due.is("depth(1)", 2, () -> book.depth(1));
        due.is("addCopy(0)", 2, () -> book.addCopy(0));
        due.is("miscopy(2, 0, 12)", 1, () -> book.miscopy(2, 0, 12));
        due.is("parentOf(2)", -1, () -> book.parentOf(2));
        due.is("depth(2)", 1, () -> book.depth(2));
        due.is("clearStripes()", 3, () -> book.clearStripes());
        due.is("addStripe(1, 3)", 1, () -> book.addStripe(1, 3));
        due.is("addStripe(0, 6)", 2, () -> book.addStripe(0, 6));
        due.is("addStripe(1, 4)", 3, () -> book.addStripe(1, 4));
        due.is("fits(0)", true, () -> book.fits(0));
        due.is("clearStripes()", 3, () -> book.clearStripes());
        due.is("addStripe(0, 11)", 1, () -> book.addStripe(0, 11));
        due.is("fits(0)", false, () -> book.fits(0));
        due.is("countFits()", 0, () -> book.countFits());
        due.is("checksum()", 7179817L, () -> book.checksum());
        due.is("isSound()", true, () -> book.isSound());
    }
}
