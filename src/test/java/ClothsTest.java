/** Promises 19 to 24. */
public final class ClothsTest {
    public static void main(String[] args) {
        Due due = new Due();
        seams(due);
        scale(due);
        scaleRefusals(due);
        twill(due);
        distance(due);
        due.end();
    }

    private static void seams(Due due) {
        Settbook book = Due.bookOfShades(2);
        Due.sett(book, false, 0, 4, 1, 8);
        due.is("joins", true, () -> book.joins(0, 6, 4));
        due.is("joins not", false, () -> book.joins(0, 5, 5));
        due.is("less than a round", false, () -> book.joins(0, 1, 1));
        due.is("over", 1, () -> book.over(0, 5, 5));
        due.is("none over", 0, () -> book.over(0, 3, 4));
        due.is("over of the least", 1, () -> book.over(0, 1, 1));
        due.is("over of the greatest", 9, () -> book.over(0, 99, 99));
        int[][] wrong = {{0, 4}, {100, 4}, {4, 0}, {4, 100}, {-4, -3}, {Integer.MIN_VALUE, 2}};
        for (int[] pair : wrong) {
            due.is("joins out of range", Due.ARGUMENT, () -> book.joins(0, pair[0], pair[1]));
            due.is("over out of range", Due.ARGUMENT, () -> book.over(0, pair[0], pair[1]));
            due.is("joins of none", Due.INDEX, () -> book.joins(1, pair[0], pair[1]));
            due.is("over of none", Due.INDEX, () -> book.over(-1, pair[0], pair[1]));
        }
    }

    private static void scale(Due due) {
        Settbook book = Due.bookOfShades(3);
        due.is("no loss", Due.ELEMENT, () -> book.getLoss());
        Due.sett(book, true, 0, 4, 1, 10, 2, 2);
        due.is("to a quarter", 1, () -> book.scale(0, 1, 4));
        due.is("1 becomes 2", 2, () -> book.getCount(1, 0));
        due.is("2 and a half becomes 2", 2, () -> book.getCount(1, 1));
        due.is("a half becomes 2", 2, () -> book.getCount(1, 2));
        due.is("mirrored", 4, () -> book.countStripes(1));
        due.is("loss of the last stripe", 6, () -> book.getLoss());
        due.is("by the same", 2, () -> book.scale(0, 7, 7));
        due.is("no loss of it", 0, () -> book.getLoss());
        due.is("alike", true, () -> book.isAlike(0, 2));
        due.is("3 becomes 4 of like ones", 3, () -> book.scale(0, 3, 2));
        due.is("3 becomes 4", 4, () -> book.getCount(3, 2));
        due.is("15 becomes 16", 16, () -> book.getCount(3, 1));
        due.is("loss of the middle", 2, () -> book.getLoss());
        Due.sett(book, false, 0, 4, 1, 10, 2, 2);
        due.is("repeated", 5, () -> book.scale(4, 19, 20));
        due.is("stays so", 3, () -> book.countStripes(5));
        due.is("9 and a half becomes 10", 10, () -> book.getCount(5, 1));
        due.is("loss is of the divided count", 10, () -> book.getLoss());
        Due.sett(book, false, 0, 6, 1, 8);
        due.is("odd first stripe", 7, () -> book.scale(6, 1, 2));
        due.is("loss of the first stripe", 2, () -> book.getLoss());
        Due.tell(book, 0, 4, 1, 10, 2, 2);
        due.is("the row stays", 3, () -> book.clearStripes());
    }

    private static void scaleRefusals(Due due) {
        Settbook book = Due.bookOfShades(2);
        Due.sett(book, false, 0, 100, 1, 2);
        due.is("sett above", Due.INDEX, () -> book.scale(1, 0, 0));
        due.is("sett below", Due.INDEX, () -> book.scale(-1, 1, 1));
        due.is("number below", Due.ARGUMENT, () -> book.scale(0, 0, 1));
        due.is("number above", Due.ARGUMENT, () -> book.scale(0, 21, 20));
        due.is("divisor below", Due.ARGUMENT, () -> book.scale(0, 1, 0));
        due.is("divisor above", Due.ARGUMENT, () -> book.scale(0, 20, 21));
        due.is("too great", Due.UNSUPPORTED, () -> book.scale(0, 20, 1));
        due.is("a little too great", Due.UNSUPPORTED, () -> book.scale(0, 19, 9));
        due.is("no loss of refused ones", Due.ELEMENT, () -> book.getLoss());
        due.is("no sett of refused ones", Due.INDEX, () -> book.getThreads(1));
        due.is("just 200", 1, () -> book.scale(0, 2, 1));
        due.is("is 200", 200, () -> book.getCount(1, 0));
        for (int i = 2; i < 20; i++) {
            due.is("sett " + i, i, () -> book.scale(0, 1, 20));
        }
        due.is("loss", 38, () -> book.getLoss());
        due.is("too great goes before room", Due.UNSUPPORTED, () -> book.scale(0, 3, 1));
        due.is("no room", Due.STATE, () -> book.scale(0, 1, 1));
        due.is("loss stays", 38, () -> book.getLoss());
    }

    private static void twill(Due due) {
        Settbook book = Due.bookOfShades(3);
        Due.sett(book, false, 0, 2, 1, 4, 2, 2);
        int[][] cases = {{0, 0, 0}, {0, 2, 0}, {2, 0, 1}, {0, 3, 0}, {3, 0, 1}, {0, 4, 1}, {4, 0, 0}, {1, 4, 1},
            {3, 6, 2}, {99999, 99999, 2}, {99999, 0, 2}, {0, 99999, 0}, {99998, 3, 1}};
        for (int[] each : cases) {
            due.is("twillAt " + each[0] + " " + each[1], each[2], () -> book.twillAt(0, each[0], each[1]));
        }
        due.is("warp below", Due.ARGUMENT, () -> book.twillAt(0, -1, 0));
        due.is("warp above", Due.ARGUMENT, () -> book.twillAt(0, 100000, 0));
        due.is("weft below", Due.ARGUMENT, () -> book.twillAt(0, 0, -1));
        due.is("weft above", Due.ARGUMENT, () -> book.twillAt(0, 0, 100000));
        due.is("sett above", Due.INDEX, () -> book.twillAt(1, 0, 100000));
        due.is("sett below", Due.INDEX, () -> book.twillAt(-1, 0, 0));
    }

    private static void distance(Due due) {
        Settbook book = new Settbook();
        book.addShade('A', 0, 0, 0);
        book.addShade('B', 31, 0, 0);
        book.addShade('C', 0, 0, 5);
        Due.sett(book, false, 0, 4, 1, 4);
        Due.sett(book, false, 1, 4, 2, 4);
        Due.sett(book, false, 0, 2, 1, 4);
        Due.sett(book, false, 0, 2, 1, 4, 2, 6);
        Due.sett(book, false, 1, 4, 0, 2, 2, 6);
        Due.sett(book, false, 1, 4, 2, 6, 0, 2);
        Due.sett(book, false, 0, 2, 2, 6, 1, 4);
        due.is("to itself", 0, () -> book.distance(0, 0));
        due.is("one shade is 5 apart", 40, () -> book.distance(0, 1));
        due.is("counts are 33 and 66 of 100", 8 * 17 + 8 * 16, () -> book.distance(0, 2));
        due.is("back", 8 * 17 + 8 * 16, () -> book.distance(2, 0));
        due.is("gone back", 0, () -> book.distance(3, 4));
        due.is("gone back from the first stripe on", 0, () -> book.distance(3, 6));
        due.is("begun at the first stripe", 0, () -> book.distance(3, 3));
        due.is("begun elsewhere", 0, () -> book.distance(3, 5));
        due.is("to it from shorter rounds", 502, () -> book.distance(0, 3));
        due.is("and on from it", 531, () -> book.distance(3, 0));
        due.is("the same again", 502, () -> book.distance(0, 3));
        due.is("first below", Due.INDEX, () -> book.distance(-1, 0));
        due.is("first above", Due.INDEX, () -> book.distance(7, 0));
        due.is("second below", Due.INDEX, () -> book.distance(0, -1));
        due.is("second above", Due.INDEX, () -> book.distance(0, 7));
    }
}
