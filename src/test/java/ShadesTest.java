/** Promises 1 to 4. */
public final class ShadesTest {
    public static void main(String[] args) {
        Due due = new Due();
        newObject(due);
        addShade(due);
        getPart(due);
        shadeDistance(due);
        due.end();
    }

    private static void newObject(Due due) {
        Settbook book = new Settbook();
        due.is("getPart of none", Due.INDEX, () -> book.getPart(0, 'm', 0));
        due.is("getThreads of none", Due.INDEX, () -> book.getThreads(0));
        due.is("clearStripes of none", 0, () -> book.clearStripes());
        due.is("left of none", Due.INDEX, () -> book.left(0));
        due.is("warpOf of none", Due.INDEX, () -> book.warpOf(0));
        due.is("parentOf of none", Due.INDEX, () -> book.parentOf(0));
        due.is("cut of none", 0, () -> book.cut());
        due.is("getWaste of none", 0, () -> book.getWaste());
        due.is("checksum of none", 217L, () -> book.checksum());
        due.is("isSound of none", true, () -> book.isSound());
    }

    private static void addShade(Due due) {
        Settbook book = new Settbook();
        due.is("no letter, below", Due.ARGUMENT, () -> book.addShade('@', 0, 0, 0));
        due.is("no letter, above", Due.ARGUMENT, () -> book.addShade('[', 0, 0, 0));
        due.is("no letter, small", Due.ARGUMENT, () -> book.addShade('a', 0, 0, 0));
        due.is("red below", Due.ARGUMENT, () -> book.addShade('A', -1, 0, 0));
        due.is("red above", Due.ARGUMENT, () -> book.addShade('A', 32, 0, 0));
        due.is("green below", Due.ARGUMENT, () -> book.addShade('A', 0, -1, 0));
        due.is("green above", Due.ARGUMENT, () -> book.addShade('A', 0, 32, 0));
        due.is("blue below", Due.ARGUMENT, () -> book.addShade('A', 0, 0, Integer.MIN_VALUE));
        due.is("blue above", Due.ARGUMENT, () -> book.addShade('A', 0, 0, Integer.MAX_VALUE));
        due.is("first", 0, () -> book.addShade('A', 31, 0, 31));
        due.is("same letter", Due.UNSUPPORTED, () -> book.addShade('A', 1, 2, 3));
        due.is("bad part goes before same letter", Due.ARGUMENT, () -> book.addShade('A', 32, 2, 3));
        due.is("second", 1, () -> book.addShade('Z', 0, 31, 0));
        for (int i = 2; i < 12; i++) {
            int number = i;
            due.is("shade " + i, i, () -> book.addShade((char) ('A' + number), 0, 0, 0));
        }
        due.is("same letter goes before room", Due.UNSUPPORTED, () -> book.addShade('Z', 1, 2, 3));
        due.is("bad letter goes before room", Due.ARGUMENT, () -> book.addShade('z', 1, 2, 3));
        due.is("no room", Due.STATE, () -> book.addShade('Y', 1, 2, 3));
    }

    private static void getPart(Due due) {
        Settbook book = new Settbook();
        book.addShade('X', 0, 23, 31);
        book.addShade('Y', 24, 1, 9);
        char[] eras = {'m', 'a', 'w'};
        int[][] parts = {{0, 23, 31, 24, 1, 9}, {8, 31, 31, 31, 9, 17}, {6, 17, 21, 18, 6, 10}};
        for (int i = 0; i < 18; i++) {
            int shade = i % 6 / 3;
            int part = i % 3;
            char era = eras[i / 6];
            due.is("getPart " + era + shade + part, parts[i / 6][i % 6], () -> book.getPart(shade, era, part));
        }
        due.is("shade below", Due.INDEX, () -> book.getPart(-1, 'm', 0));
        due.is("shade above goes before era", Due.INDEX, () -> book.getPart(2, 'x', 7));
        due.is("no era", Due.ARGUMENT, () -> book.getPart(0, 'M', 0));
        due.is("part below", Due.ARGUMENT, () -> book.getPart(0, 'm', -1));
        due.is("part above", Due.ARGUMENT, () -> book.getPart(0, 'w', 3));
    }

    private static void shadeDistance(Due due) {
        Settbook book = new Settbook();
        book.addShade('X', 1, 20, 31);
        book.addShade('Y', 11, 0, 0);
        due.is("distance", 61, () -> book.shadeDistance(0, 1));
        due.is("distance back", 61, () -> book.shadeDistance(1, 0));
        due.is("distance to itself", 0, () -> book.shadeDistance(1, 1));
        due.is("first below", Due.INDEX, () -> book.shadeDistance(-1, 0));
        due.is("first above", Due.INDEX, () -> book.shadeDistance(2, 0));
        due.is("second below", Due.INDEX, () -> book.shadeDistance(0, -1));
        due.is("second above", Due.INDEX, () -> book.shadeDistance(0, 2));
    }
}
