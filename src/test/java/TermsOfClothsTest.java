/** What the document's Terms say of cloths, scaling and twills, sentence by sentence, at the edges. */
public final class TermsOfClothsTest {
    private final Due due = new Due();

    public static void main(String[] args) {
        TermsOfClothsTest test = new TermsOfClothsTest();
        test.acrossOfAllSizes();
        test.roundsAlone();
        test.evenAndNearest();
        test.ofTwoTheGreaterOne();
        test.twoAtLeast();
        test.at200AndAbove();
        test.lossIsTheGreatest();
        test.lossOfTheLastScaling();
        test.theStripesThatWereTold();
        test.whatIsScaledStays();
        test.scaledOfScaled();
        test.twillOfAllPlaces();
        test.twillRoundAndRound();
        test.due.end();
    }

    private void acrossOfAllSizes() {
        int[][] setts = {{0, 4, 1, 8}, {0, 200, 1, 200, 0, 200, 1, 198}, {0, 2, 1, 2}};
        for (int[] told : setts) {
            int threads = Round.of(false, told).threads.length;
            for (int i = 1; i <= 99; i++) {
                Settbook book = Due.bookOfShades(2);
                Due.sett(book, false, told);
                for (int j = 1; j <= 99; j++) {
                    int width = i;
                    int perUnit = j;
                    int over = i * j % threads;
                    due.is(i + " of " + j + " over " + threads, over, () -> book.over(0, width, perUnit));
                    due.is(i + " of " + j + " joins", over == 0, () -> book.joins(0, width, perUnit));
                }
            }
        }
    }

    private void across(Settbook book, int width, int perUnit, int over) {
        due.is(width + " of " + perUnit + " over", over, () -> book.over(0, width, perUnit));
        due.is(width + " of " + perUnit + " joins", over == 0, () -> book.joins(0, width, perUnit));
    }

    private void roundsAlone() {
        Settbook twelve = Due.bookOfShades(2);
        Due.sett(twelve, true, 0, 4, 1, 8);
        across(twelve, 1, 11, 11);
        across(twelve, 1, 12, 0);
        across(twelve, 12, 1, 0);
        across(twelve, 1, 13, 1);
        across(twelve, 1, 1, 1);
        across(twelve, 2, 12, 0);
        across(twelve, 1, 99, 3);
        across(twelve, 99, 99, 9);
        across(twelve, 96, 99, 0);
        Settbook longest = Due.bookOfShades(2);
        int[] told = new int[32];
        for (int i = 0; i < 16; i++) {
            told[2 * i] = i % 2;
            told[2 * i + 1] = 200;
        }
        Due.sett(longest, true, told);
        across(longest, 99, 99, 9801 - 6000);
        across(longest, 80, 75, 0);
        across(longest, 79, 75, 5925);
        across(longest, 81, 75, 75);
        across(longest, 1, 1, 1);
    }

    /** The even count of 2 or more that is nearest, of two the greater one, found by trying all. */
    private static int nearest(int count, int number, int divisor) {
        int best = 2;
        for (int even = 2; even <= 4000; even += 2) {
            if (Math.abs(even * divisor - count * number) <= Math.abs(best * divisor - count * number)) {
                best = even;
            }
        }
        return best;
    }

    private void evenAndNearest() {
        for (int number = 1; number <= 20; number++) {
            for (int divisor = 1; divisor <= 20; divisor++) {
                for (int count = 2; count <= 200; count += 2) {
                    scaled(count, number, divisor);
                }
            }
        }
    }

    private void scaled(int count, int number, int divisor) {
        Settbook book = Due.bookOfShades(2);
        Due.sett(book, false, 0, count, 1, 2);
        int want = nearest(count, number, divisor);
        int beside = nearest(2, number, divisor);
        String name = count + " by " + number + " / " + divisor;
        if (want > 200) {
            due.is(name, Due.UNSUPPORTED, () -> book.scale(0, number, divisor));
            due.is(name + ", none made", Due.INDEX, () -> book.getCount(1, 0));
            due.is(name + ", no loss", Due.ELEMENT, () -> book.getLoss());
            return;
        }
        int loss = Math.max(Math.abs(want * divisor - count * number), Math.abs(beside * divisor - 2 * number));
        due.is(name, 1, () -> book.scale(0, number, divisor));
        due.is(name + ", count", want, () -> book.getCount(1, 0));
        due.is(name + ", count beside", beside, () -> book.getCount(1, 1));
        due.is(name + ", loss", loss, () -> book.getLoss());
    }

    private void becomes(int count, int number, int divisor, int want) {
        Settbook book = Due.bookOfShades(2);
        Due.sett(book, false, 0, count, 1, 2);
        due.is(count + " by " + number + " / " + divisor, 1, () -> book.scale(0, number, divisor));
        due.is(count + " by " + number + " / " + divisor + " becomes", want, () -> book.getCount(1, 0));
    }

    private void ofTwoTheGreaterOne() {
        becomes(6, 1, 2, 4);
        becomes(10, 1, 2, 6);
        becomes(14, 1, 2, 8);
        becomes(18, 1, 6, 4);
        becomes(22, 3, 2, 34);
        becomes(50, 1, 10, 6);
        becomes(180, 1, 20, 10);
        becomes(60, 19, 20, 58);
        becomes(58, 1, 20, 2);
        becomes(62, 1, 20, 4);
        becomes(98, 1, 20, 4);
        becomes(102, 1, 20, 6);
    }

    private void twoAtLeast() {
        becomes(2, 1, 1, 2);
        becomes(2, 1, 2, 2);
        becomes(2, 1, 20, 2);
        becomes(18, 1, 20, 2);
        becomes(20, 1, 20, 2);
        becomes(22, 1, 20, 2);
        becomes(40, 1, 20, 2);
        becomes(2, 20, 1, 40);
    }

    private void at200AndAbove() {
        becomes(10, 20, 1, 200);
        becomes(100, 2, 1, 200);
        becomes(200, 1, 1, 200);
        becomes(200, 20, 20, 200);
        becomes(190, 20, 19, 200);
        becomes(20, 10, 1, 200);
        becomes(118, 17, 10, 200);
        becomes(182, 11, 10, 200);
        refused(134, 3, 2);
        refused(12, 20, 1);
        refused(200, 20, 19);
        refused(200, 20, 1);
        refused(106, 19, 10);
    }

    private void refused(int count, int number, int divisor) {
        String name = count + " by " + number + " / " + divisor;
        for (int place = 0; place < 3; place++) {
            Settbook book = Due.bookOfShades(3);
            int[] told = {0, 2, 1, 2, 2, 2};
            told[2 * place + 1] = count;
            Due.sett(book, true, told);
            due.is(name + " at " + place, Due.UNSUPPORTED, () -> book.scale(0, number, divisor));
            due.is(name + ", no sett of it", Due.INDEX, () -> book.countStripes(1));
            due.is(name + ", no loss of it", Due.ELEMENT, () -> book.getLoss());
            due.is(name + ", the sett stays", told[1], () -> book.getCount(0, 0));
        }
    }

    private void loss(String name, int number, int divisor, int want, int... told) {
        Settbook book = Due.bookOfShades(4);
        Due.sett(book, true, told);
        due.is(name + ", scaled", 1, () -> book.scale(0, number, divisor));
        due.is(name, want, () -> book.getLoss());
    }

    private void lossIsTheGreatest() {
        loss("none", 2, 1, 0, 0, 4, 1, 8);
        loss("none by 1", 20, 20, 0, 0, 2, 1, 200);
        loss("of the first", 1, 2, 2, 0, 6, 1, 8, 2, 12);
        loss("of the middle", 1, 2, 2, 0, 8, 1, 6, 2, 12);
        loss("of the last", 1, 2, 2, 0, 8, 1, 12, 2, 6);
        loss("too small a count", 1, 20, 38, 0, 2, 1, 40);
        loss("the greatest of three", 1, 20, 38, 0, 40, 1, 2, 2, 30);
        loss("one that is cut", 1, 3, 2, 0, 20, 1, 12);
        loss("one that is more", 1, 3, 2, 0, 16, 1, 12);
        loss("without sign", 1, 20, 20, 0, 60, 1, 100);
        loss("without sign, less", 1, 20, 18, 0, 58, 1, 40);
        loss("200 and a little, cut", 11, 10, 2, 0, 182, 1, 20);
    }

    private void lossOfTheLastScaling() {
        Settbook book = Due.bookOfShades(2);
        due.is("no scaling", Due.ELEMENT, () -> book.getLoss());
        Due.sett(book, false, 0, 6, 1, 2);
        due.is("a sett alone", Due.ELEMENT, () -> book.getLoss());
        book.scale(0, 1, 20);
        due.is("first", 38, () -> book.getLoss());
        due.is("the same once more", 38, () -> book.getLoss());
        book.scale(0, 1, 2);
        due.is("second", 2, () -> book.getLoss());
        book.scale(0, 1, 1);
        due.is("none is a loss of 0", 0, () -> book.getLoss());
        book.scale(0, 1, 3);
        due.is("fourth", 4, () -> book.getLoss());
        due.is("refused for a number", Due.ARGUMENT, () -> book.scale(0, 0, 1));
        due.is("refused for a divisor", Due.ARGUMENT, () -> book.scale(0, 1, 21));
        due.is("refused for no sett", Due.INDEX, () -> book.scale(5, 1, 1));
        Due.sett(book, false, 0, 200, 1, 2);
        due.is("refused for a count", Due.UNSUPPORTED, () -> book.scale(5, 2, 1));
        due.is("the fourth stays", 4, () -> book.getLoss());
    }

    private void theStripesThatWereTold() {
        Settbook book = Due.bookOfShades(12);
        int[] told = new int[32];
        for (int i = 0; i < 16; i++) {
            told[2 * i] = i % 12;
            told[2 * i + 1] = 4 * i + 4;
        }
        Due.sett(book, true, told);
        Due.sett(book, false, told);
        for (int sett = 0; sett < 2; sett++) {
            int source = sett;
            int made = sett + 2;
            due.is("scaled " + sett, made, () -> book.scale(source, 1, 2));
            due.is("stripes of it", sett == 0 ? 30 : 16, () -> book.countStripes(made));
            for (int i = 0; i < 16; i++) {
                int index = i;
                due.is("shade " + i, i % 12, () -> book.getShade(made, index));
                due.is("count " + i, 2 * i + 2, () -> book.getCount(made, index));
            }
        }
        due.is("back behind the pivot", 30, () -> book.getCount(2, 16));
        due.is("the last one back", 4, () -> book.getCount(2, 29));
    }

    private void whatIsScaledStays() {
        Settbook book = Due.bookOfShades(3);
        Due.sett(book, true, 0, 4, 1, 8, 2, 2);
        Due.tell(book, 2, 6);
        book.scale(0, 3, 1);
        due.is("count of the first", 4, () -> book.getCount(0, 0));
        due.is("threads of the first", 22, () -> book.getThreads(0));
        due.is("threads of the second", 66, () -> book.getThreads(1));
        due.is("the row", 1, () -> book.clearStripes());
        due.is("scaled without a row", 2, () -> book.scale(0, 1, 1));
        due.is("no stripe of a row", 0, () -> book.clearStripes());
        due.is("not registered", Due.UNSUPPORTED, () -> book.isContested(2));
    }

    private void scaledOfScaled() {
        Settbook book = Due.bookOfShades(2);
        Due.sett(book, true, 0, 2, 1, 2, 0, 4);
        int want = 4;
        for (int made = 1; made <= 5; made++) {
            int number = made;
            want *= 2;
            due.is("scaled " + made, made, () -> book.scale(number - 1, 2, 1));
            due.is("last pivot of " + made, want, () -> book.getCount(number, 2));
            due.is("stripes of " + made, 4, () -> book.countStripes(number));
        }
        due.is("to 256", Due.UNSUPPORTED, () -> book.scale(5, 2, 1));
        due.is("by one and a half", 6, () -> book.scale(5, 12, 8));
        due.is("last pivot of it", 192, () -> book.getCount(6, 2));
    }

    private void twillOfAllPlaces() {
        int[] told = {0, 4, 1, 2, 2, 4};
        int[] threads = Round.of(false, told).threads;
        for (int i = 0; i < 22; i++) {
            Settbook book = Due.bookOfShades(3);
            Due.sett(book, false, told);
            for (int j = 0; j < 22; j++) {
                int warp = i;
                int weft = j;
                boolean isWeft = (i + j) % 4 == 0 || (i + j) % 4 == 1;
                int want = threads[(isWeft ? j : i) % 10];
                due.is("twill " + i + " " + j, want, () -> book.twillAt(0, warp, weft));
            }
        }
    }

    private void twill(Settbook book, int warp, int weft, int want) {
        due.is("twill " + warp + " " + weft, want, () -> book.twillAt(0, warp, weft));
    }

    /** In a round of 10 threads the last 99990 to 99999 are those from 0 to 9. */
    private void twillRoundAndRound() {
        Settbook book = Due.bookOfShades(3);
        Due.sett(book, false, 0, 4, 1, 2, 2, 4);
        twill(book, 99999, 99999, 2);
        twill(book, 99999, 0, 2);
        twill(book, 99999, 1, 0);
        twill(book, 99999, 2, 0);
        twill(book, 99999, 3, 2);
        twill(book, 99999, 4, 2);
        twill(book, 0, 99999, 0);
        twill(book, 1, 99999, 2);
        twill(book, 2, 99999, 2);
        twill(book, 3, 99999, 0);
        twill(book, 4, 99999, 1);
        twill(book, 5, 99999, 2);
        twill(book, 99995, 99998, 2);
        twill(book, 99995, 99990, 0);
        twill(book, 99998, 99995, 1);
        twill(book, 99998, 99996, 2);
    }
}
