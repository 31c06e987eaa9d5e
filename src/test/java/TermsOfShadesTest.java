/** What the document's Terms say of shades, sentence by sentence, at the edges. */
public final class TermsOfShadesTest {
    private static final int[] ANCIENT = {8, 9, 10, 11, 12, 13, 14, 15, 16, 17, 18, 19, 20, 21, 22, 23, 24, 25, 26, 27,
        28, 29, 30, 31, 31, 31, 31, 31, 31, 31, 31, 31};
    private static final int[] WEATHERED = {6, 6, 7, 7, 8, 8, 9, 9, 10, 10, 11, 11, 12, 12, 13, 13, 14, 14, 15, 15, 16,
        16, 17, 17, 18, 18, 19, 19, 20, 20, 21, 21};

    private final Due due = new Due();

    public static void main(String[] args) {
        TermsOfShadesTest test = new TermsOfShadesTest();
        test.atMostTwelveAreNumberedFromZero();
        test.eachWithALetter();
        test.unlikeLetters();
        test.partsOf0To31();
        test.erasShiftParts();
        test.erasOnlyLook();
        test.distanceOfOnePart();
        test.distanceIsTheSum();
        test.due.end();
    }

    private void atMostTwelveAreNumberedFromZero() {
        Settbook book = new Settbook();
        for (int i = 0; i < 12; i++) {
            int number = i;
            due.is("no shade " + i + " yet", Due.INDEX, () -> book.getPart(number, 'm', 0));
            due.is("shade " + i, i, () -> book.addShade((char) ('Z' - number), number, 0, 0));
            due.is("red of shade " + i, i, () -> book.getPart(number, 'm', 0));
        }
        for (char letter = 'A'; letter < 'A' + 14; letter++) {
            char which = letter;
            due.is("a thirteenth shade " + letter, Due.STATE, () -> book.addShade(which, 0, 0, 0));
        }
        due.is("no shade 12", Due.INDEX, () -> book.getPart(12, 'm', 0));
        due.is("shade 11 stays", 11, () -> book.getPart(11, 'm', 0));
    }

    private void eachWithALetter() {
        for (int i = 0; i <= Character.MAX_VALUE; i++) {
            char letter = (char) i;
            Object want = i >= 'A' && i <= 'Z' ? (Object) 0 : Due.ARGUMENT;
            due.is("letter " + i, want, () -> new Settbook().addShade(letter, 1, 2, 3));
        }
    }

    private void unlikeLetters() {
        for (char letter = 'A'; letter <= 'Z'; letter++) {
            Settbook book = new Settbook();
            char which = letter;
            char other = letter == 'Z' ? 'A' : (char) (letter + 1);
            book.addShade(letter, 1, 2, 3);
            due.is("another " + letter, Due.UNSUPPORTED, () -> book.addShade(which, 4, 5, 6));
            due.is("the letter beside " + letter, 1, () -> book.addShade(other, 1, 2, 3));
            due.is("one behind another " + letter, Due.UNSUPPORTED, () -> book.addShade(which, 1, 2, 3));
            due.is("the parts of the first stay", 1, () -> book.getPart(0, 'm', 0));
        }
    }

    private void partsOf0To31() {
        for (int i = -2; i <= 33; i++) {
            int told = i;
            Object want = i >= 0 && i <= 31 ? (Object) 0 : Due.ARGUMENT;
            Settbook red = new Settbook();
            Settbook green = new Settbook();
            Settbook blue = new Settbook();
            due.is("red " + i, want, () -> red.addShade('A', told, 15, 31));
            due.is("green " + i, want, () -> green.addShade('A', 31, told, 15));
            due.is("blue " + i, want, () -> blue.addShade('A', 15, 31, told));
            Settbook[] books = {red, green, blue};
            for (int part = 0; part < 3; part++) {
                int which = part;
                Object answer = want.equals(0) ? (Object) i : Due.INDEX;
                due.is("part " + part + " told as " + i, answer, () -> books[which].getPart(0, 'm', which));
            }
        }
    }

    private void erasShiftParts() {
        for (int i = 0; i < 32; i++) {
            Settbook book = new Settbook();
            int[] parts = {i, (i + 11) % 32, (i + 22) % 32};
            book.addShade('A', parts[0], parts[1], parts[2]);
            for (int part = 0; part < 3; part++) {
                int which = part;
                due.is("modern " + parts[part], parts[part], () -> book.getPart(0, 'm', which));
                due.is("ancient " + parts[part], ANCIENT[parts[part]], () -> book.getPart(0, 'a', which));
                due.is("weathered " + parts[part], WEATHERED[parts[part]], () -> book.getPart(0, 'w', which));
            }
        }
    }

    private void erasOnlyLook() {
        Settbook book = new Settbook();
        book.addShade('A', 4, 24, 31);
        book.getPart(0, 'w', 2);
        book.getPart(0, 'a', 1);
        due.is("ancient once more", 31, () -> book.getPart(0, 'a', 1));
        due.is("weathered once more", 21, () -> book.getPart(0, 'w', 2));
        due.is("modern still", 24, () -> book.getPart(0, 'm', 1));
        for (int i = 0; i <= Character.MAX_VALUE; i++) {
            char era = (char) i;
            if (era != 'm' && era != 'a' && era != 'w') {
                due.is("era " + i, Due.ARGUMENT, () -> Due.bookOfShades(1).getPart(0, era, 0));
            }
        }
    }

    private void distanceOfOnePart() {
        for (int i = 0; i < 32; i++) {
            Settbook book = new Settbook();
            book.addShade('A', i, 16, 31 - i);
            book.addShade('B', 31 - i, 16, 31 - i);
            book.addShade('C', i, i, 31 - i);
            book.addShade('D', i, 16, i);
            int ends = i < 16 ? 31 - 2 * i : 2 * i - 31;
            int middle = i < 16 ? 16 - i : i - 16;
            due.is("red apart, " + i, ends, () -> book.shadeDistance(0, 1));
            due.is("red apart, back, " + i, ends, () -> book.shadeDistance(1, 0));
            due.is("green apart, " + i, middle, () -> book.shadeDistance(0, 2));
            due.is("green apart, back, " + i, middle, () -> book.shadeDistance(2, 0));
            due.is("blue apart, " + i, ends, () -> book.shadeDistance(0, 3));
            due.is("blue apart, back, " + i, ends, () -> book.shadeDistance(3, 0));
            due.is("to itself, " + i, 0, () -> book.shadeDistance(2, 2));
        }
    }

    private void distanceIsTheSum() {
        Settbook book = new Settbook();
        book.addShade('K', 0, 0, 0);
        book.addShade('W', 31, 31, 31);
        book.addShade('A', 10, 20, 30);
        book.addShade('B', 30, 10, 20);
        book.addShade('C', 10, 20, 30);
        for (int i = 5; i < 12; i++) {
            book.addShade((char) ('A' + i - 2), i, 0, 0);
        }
        due.is("black to white", 93, () -> book.shadeDistance(0, 1));
        due.is("white to black", 93, () -> book.shadeDistance(1, 0));
        due.is("one part falls, another rises", 40, () -> book.shadeDistance(2, 3));
        due.is("and back", 40, () -> book.shadeDistance(3, 2));
        due.is("like parts, another letter", 0, () -> book.shadeDistance(2, 4));
        due.is("the first to the last", 11, () -> book.shadeDistance(0, 11));
        due.is("the last to the first", 11, () -> book.shadeDistance(11, 0));
        due.is("the last to the one before", 1, () -> book.shadeDistance(11, 10));
        due.is("the last to itself", 0, () -> book.shadeDistance(11, 11));
    }
}
