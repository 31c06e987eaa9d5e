import java.util.Arrays;

/** What the document's Terms say of rounds, threads, likeness and forms, sentence by sentence, at the edges. */
public final class TermsOfSettsTest {
    private final Due due = new Due();

    public static void main(String[] args) {
        TermsOfSettsTest test = new TermsOfSettsTest();
        test.roundsOfAllSizes();
        test.pivotsStandInItOnceInFull();
        test.threadsGoOnRoundAndRound();
        test.alikeInAllTurns();
        test.notAlikeByOneCount();
        test.notAlikeByOneShade();
        test.notAlikeByOrder();
        test.alikeIsTheWholeRound();
        test.mirroredAlike();
        test.lowestOfTwenty();
        test.formsOfFour();
        test.formsOfFive();
        test.formOfLikeBeginnings();
        test.formOfTheLongest();
        test.shares();
        test.means();
        test.due.end();
    }

    /** So many stripes of unlike counts, of the shades 0 to 9 in turn, and the last one of shade 10. */
    private static int[] row(int size) {
        int[] stripes = new int[2 * size];
        for (int i = 0; i < size; i++) {
            stripes[2 * i] = i == size - 1 ? 10 : i % 10;
            stripes[2 * i + 1] = 40 - 2 * i;
        }
        return stripes;
    }

    private void stripes(String name, Settbook book, int sett, int[] want) {
        int size = want.length / 2;
        due.is(name + ", stripes", size, () -> book.countStripes(sett));
        for (int i = 0; i < size; i++) {
            int index = i;
            due.is(name + ", shade " + i, want[2 * i], () -> book.getShade(sett, index));
            due.is(name + ", count " + i, want[2 * i + 1], () -> book.getCount(sett, index));
        }
        for (int beside : new int[] {-1, size, size + 1}) {
            due.is(name + ", shade " + beside, Due.ELEMENT, () -> book.getShade(sett, beside));
            due.is(name + ", count " + beside, Due.ELEMENT, () -> book.getCount(sett, beside));
        }
    }

    private void form(String name, Settbook book, int sett, int[] want) {
        int size = want.length / 2;
        for (int i = 0; i < size; i++) {
            int index = i;
            due.is(name + ", form's shade " + i, want[2 * i], () -> book.formShade(sett, index));
            due.is(name + ", form's count " + i, want[2 * i + 1], () -> book.formCount(sett, index));
        }
        for (int beside : new int[] {-1, size, size + 1}) {
            due.is(name + ", form's shade " + beside, Due.ELEMENT, () -> book.formShade(sett, beside));
            due.is(name + ", form's count " + beside, Due.ELEMENT, () -> book.formCount(sett, beside));
        }
    }

    private void roundsOfAllSizes() {
        for (int size = 2; size <= 16; size++) {
            Settbook book = Due.bookOfShades(12);
            int[] told = row(size);
            Due.sett(book, true, told);
            Due.sett(book, false, told);
            Round mirrored = Round.of(true, told);
            stripes(size + " mirrored", book, 0, mirrored.stripes);
            stripes(size + " repeated", book, 1, told);
            form(size + " mirrored", book, 0, mirrored.form());
            form(size + " repeated", book, 1, Round.of(false, told).form());
            int stripes = 2 * size - 2;
            due.is(size + " told, mirrored", stripes, () -> book.countStripes(0));
            due.is(size + " mirrored, threads", mirrored.threads.length, () -> book.getThreads(0));
        }
    }

    private void pivotsStandInItOnceInFull() {
        Settbook book = Due.bookOfShades(3);
        Due.sett(book, true, 0, 10, 1, 4);
        stripes("two pivots", book, 0, new int[] {0, 10, 1, 4});
        due.is("threads of two pivots", 14, () -> book.getThreads(0));
        Due.sett(book, true, 0, 10, 1, 4, 2, 6);
        stripes("one between", book, 1, new int[] {0, 10, 1, 4, 2, 6, 1, 4});
        due.is("threads with one between", 24, () -> book.getThreads(1));
        Due.sett(book, true, 0, 10, 1, 4, 2, 6, 0, 2);
        stripes("two between", book, 2, new int[] {0, 10, 1, 4, 2, 6, 0, 2, 2, 6, 1, 4});
        due.is("threads with two between", 32, () -> book.getThreads(2));
        Due.sett(book, true, 0, 10, 1, 4, 0, 6);
        stripes("pivots of one shade", book, 3, new int[] {0, 10, 1, 4, 0, 6, 1, 4});
        Due.sett(book, false, 0, 10, 1, 4, 2, 6);
        stripes("none between if it repeats", book, 4, new int[] {0, 10, 1, 4, 2, 6});
        due.is("threads if it repeats", 20, () -> book.getThreads(4));
        Due.sett(book, false, 0, 2, 1, 2);
        due.is("fewest threads", 4, () -> book.getThreads(5));
    }

    private void threadsGoOnRoundAndRound() {
        for (boolean isMirrored : new boolean[] {true, false}) {
            for (int size : new int[] {2, 3, 15, 16}) {
                Settbook book = Due.bookOfShades(12);
                Due.sett(book, isMirrored, row(size));
                Round round = Round.of(isMirrored, row(size));
                int all = round.threads.length;
                for (int stripe = 0; stripe < round.size; stripe++) {
                    int first = round.firstThread(stripe);
                    thread(book, first, round.shade(stripe));
                    thread(book, first + round.count(stripe) - 1, round.shade(stripe));
                    thread(book, first + 7 * all, round.shade(stripe));
                }
                thread(book, all - 1, round.shade(round.size - 1));
                thread(book, all, round.shade(0));
                thread(book, 2 * all - 1, round.shade(round.size - 1));
                thread(book, 2 * all, round.shade(0));
                thread(book, 99998, round.thread(99998));
                thread(book, 99999, round.thread(99999));
            }
        }
        Settbook book = Due.bookOfShades(2);
        Due.sett(book, false, 0, 2, 1, 2);
        thread(book, 99996, 0);
        thread(book, 99997, 0);
        thread(book, 99998, 1);
        thread(book, 99999, 1);
    }

    private void thread(Settbook book, int thread, int want) {
        due.is("thread " + thread + " of " + book.getThreads(0), want, () -> book.shadeOf(0, thread));
    }

    private void alike(String name, boolean want, Settbook book, int sett, int other) {
        due.is(name + ", " + sett + " to " + other, want, () -> book.isAlike(sett, other));
        due.is(name + ", " + other + " to " + sett, want, () -> book.isAlike(other, sett));
    }

    private void alikeInAllTurns() {
        for (int size = 2; size <= 16; size++) {
            Round round = Round.of(false, row(size));
            int last = size - 1;
            for (int begin = 0; begin < size; begin++) {
                Settbook book = Due.bookOfShades(12);
                Due.sett(book, false, round.stripes);
                Due.sett(book, false, round.turn(begin, 1, size));
                Due.sett(book, false, round.turn(begin, -1, size));
                String name = size + " begun at " + begin;
                alike(name, true, book, 0, 1);
                alike(name + ", back", true, book, 0, 2);
                alike(name + ", both", true, book, 1, 2);
                due.is(name + ", lowest", 0, () -> book.lowestAlike(2));
                due.is(name + ", form", book.formCount(0, 0), () -> book.formCount(1, 0));
                due.is(name + ", form, back", book.formShade(0, last), () -> book.formShade(2, last));
            }
        }
    }

    private void notAlikeByOneCount() {
        for (int size = 2; size <= 16; size++) {
            for (int place = 0; place < size; place++) {
                Settbook book = Due.bookOfShades(12);
                int[] other = row(size);
                other[2 * place + 1] += 50;
                Due.sett(book, false, row(size));
                Due.sett(book, false, other);
                alike(size + ", another count at " + place, false, book, 0, 1);
                due.is("another count, lowest", 1, () -> book.lowestAlike(1));
            }
        }
    }

    private void notAlikeByOneShade() {
        for (int size = 2; size <= 16; size++) {
            for (int place = 0; place < size; place++) {
                Settbook book = Due.bookOfShades(12);
                int[] other = row(size);
                other[2 * place] = 11;
                Due.sett(book, false, row(size));
                Due.sett(book, false, other);
                alike(size + ", another shade at " + place, false, book, 0, 1);
                due.is("another shade, lowest", 1, () -> book.lowestAlike(1));
            }
        }
    }

    private void notAlikeByOrder() {
        Settbook book = Due.bookOfShades(4);
        Due.sett(book, false, 0, 4, 1, 4, 2, 4, 3, 4);
        Due.sett(book, false, 0, 4, 2, 4, 1, 4, 3, 4);
        Due.sett(book, false, 0, 4, 1, 4, 3, 4, 2, 4);
        Due.sett(book, false, 0, 4, 3, 4, 2, 4, 1, 4);
        Due.sett(book, false, 0, 4, 1, 6, 0, 8, 1, 10);
        Due.sett(book, false, 0, 4, 1, 10, 0, 8, 1, 6);
        Due.sett(book, false, 0, 6, 1, 4, 0, 10, 1, 8);
        Due.sett(book, false, 0, 4, 1, 8, 0, 6, 1, 10);
        alike("two changed", false, book, 0, 1);
        alike("two others changed", false, book, 0, 2);
        alike("two and two changed", false, book, 1, 2);
        alike("back", true, book, 0, 3);
        alike("counts back", true, book, 4, 5);
        alike("counts of the other shade", false, book, 4, 6);
        alike("counts in another order", false, book, 4, 7);
        int[] lowest = {0, 1, 2, 0, 4, 4, 6, 7};
        for (int i = 0; i < lowest.length; i++) {
            int sett = i;
            due.is("lowest of " + i, lowest[i], () -> book.lowestAlike(sett));
        }
    }

    private void alikeIsTheWholeRound() {
        Settbook book = Due.bookOfShades(3);
        Due.sett(book, false, 0, 4, 1, 8);
        Due.sett(book, false, 0, 4, 1, 8, 0, 4, 1, 8);
        Due.sett(book, false, 0, 4, 1, 8, 0, 4, 1, 8, 0, 4, 1, 8);
        Due.sett(book, false, 1, 8, 0, 4, 1, 8, 0, 4);
        Due.sett(book, false, 0, 4, 1, 8, 2, 2);
        Due.sett(book, false, 0, 8, 1, 16);
        alike("once and twice", false, book, 0, 1);
        alike("twice and thrice", false, book, 1, 2);
        alike("once and thrice", false, book, 0, 2);
        alike("twice, begun elsewhere", true, book, 1, 3);
        alike("a stripe more", false, book, 0, 4);
        alike("all counts twice", false, book, 0, 5);
        due.is("threads alone do not tell", 24, () -> book.getThreads(1));
        due.is("nor do they here", 24, () -> book.getThreads(5));
        alike("as many threads", false, book, 1, 5);
    }

    private void mirroredAlike() {
        Settbook book = Due.bookOfShades(3);
        Due.sett(book, true, 0, 4, 1, 8, 2, 6);
        Due.sett(book, true, 2, 6, 1, 8, 0, 4);
        Due.sett(book, false, 1, 8, 0, 4, 1, 8, 2, 6);
        Due.sett(book, false, 0, 4, 1, 8, 2, 6);
        Due.sett(book, true, 1, 8, 0, 4);
        Due.sett(book, false, 0, 4, 1, 8);
        Due.sett(book, true, 1, 8, 0, 4, 1, 8);
        alike("pivots the other way round", true, book, 0, 1);
        alike("told in full", true, book, 0, 2);
        alike("told once", false, book, 0, 3);
        alike("two pivots mirrored and repeated", true, book, 4, 5);
        alike("two pivots and three", false, book, 4, 6);
        int[] lowest = {0, 0, 0, 3, 4, 4, 6};
        for (int i = 0; i < lowest.length; i++) {
            int sett = i;
            due.is("lowest of " + i, lowest[i], () -> book.lowestAlike(sett));
            due.is("alike to itself", true, () -> book.isAlike(sett, sett));
        }
    }

    private void lowestOfTwenty() {
        Settbook book = Due.bookOfShades(2);
        for (int i = 0; i < 19; i++) {
            Due.sett(book, false, 0, 4, 1, i < 18 ? 2 * i + 2 : 100);
        }
        Due.sett(book, true, 1, 100, 0, 4);
        due.is("of the last", 18, () -> book.lowestAlike(19));
        due.is("of the one before", 18, () -> book.lowestAlike(18));
        due.is("of the one before that", 17, () -> book.lowestAlike(17));
        due.is("of the first", 0, () -> book.lowestAlike(0));
        due.is("none behind", Due.INDEX, () -> book.lowestAlike(20));
    }

    /** All rounds of 4 stripes of three shades and the counts 2 and 4. */
    private void formsOfFour() {
        for (int shades = 0; shades < 81; shades++) {
            int[] told = {shades % 3, 0, shades / 3 % 3, 0, shades / 9 % 3, 0, shades / 27, 0};
            formsOfShades(told);
        }
    }

    /** Rounds of 5 stripes of three shades and the counts 2 and 4. */
    private void formsOfFive() {
        for (int shades = 0; shades < 81; shades++) {
            int[] told = {0, 0, shades % 3, 0, shades / 3 % 3, 0, shades / 9 % 3, 0, shades / 27, 0};
            formsOfShades(told);
        }
    }

    private void formsOfShades(int[] told) {
        int size = told.length / 2;
        for (int i = 0; i < size; i++) {
            if (told[2 * i] == told[(2 * i + 2) % told.length]) {
                return;
            }
        }
        for (int counts = 0; counts < 1 << size; counts++) {
            for (int i = 0; i < size; i++) {
                told[2 * i + 1] = 2 + 2 * (counts >> i & 1);
            }
            Settbook book = Due.bookOfShades(3);
            Due.sett(book, false, told);
            form(Arrays.toString(told), book, 0, Round.of(false, told).form());
        }
    }

    private void formOfLikeBeginnings() {
        Settbook book = Due.bookOfShades(5);
        Due.sett(book, false, 4, 2, 3, 2);
        form("lowest shade, not count", book, 0, new int[] {3, 2, 4, 2});
        Due.sett(book, false, 3, 200, 4, 2);
        form("lowest shade, highest count", book, 1, new int[] {3, 200, 4, 2});
        Due.sett(book, false, 0, 6, 2, 2, 0, 4, 1, 2);
        form("then its count", book, 2, new int[] {0, 4, 1, 2, 0, 6, 2, 2});
        Due.sett(book, false, 0, 4, 2, 2, 0, 4, 3, 4, 1, 100);
        form("then the second shade", book, 3, new int[] {0, 4, 1, 100, 3, 4, 0, 4, 2, 2});
        Due.sett(book, false, 0, 4, 1, 6, 2, 2, 1, 4);
        form("then the second count", book, 4, new int[] {0, 4, 1, 4, 2, 2, 1, 6});
        Due.sett(book, false, 0, 4, 1, 6, 3, 2, 2, 2, 1, 6);
        form("then the third shade", book, 5, new int[] {0, 4, 1, 6, 2, 2, 3, 2, 1, 6});
        Due.sett(book, false, 0, 4, 1, 6, 2, 4, 3, 2, 2, 2, 1, 6);
        form("then the third count", book, 6, new int[] {0, 4, 1, 6, 2, 2, 3, 2, 2, 4, 1, 6});
        Due.sett(book, false, 1, 6, 0, 4, 1, 6, 0, 4);
        form("all turns alike", book, 7, new int[] {0, 4, 1, 6, 0, 4, 1, 6});
        Due.sett(book, true, 2, 4, 1, 6, 0, 4);
        form("both directions alike", book, 8, new int[] {0, 4, 1, 6, 2, 4, 1, 6});
    }

    private void formOfTheLongest() {
        int[] told = new int[32];
        for (int i = 0; i < 16; i++) {
            told[2 * i] = i % 2;
            told[2 * i + 1] = i == 9 ? 198 : 200;
        }
        Settbook book = Due.bookOfShades(2);
        Due.sett(book, true, told);
        form("longest mirrored", book, 0, Round.of(true, told).form());
        Due.sett(book, false, told);
        form("longest repeated", book, 1, Round.of(false, told).form());
        due.is("most threads but 4", 5996, () -> book.getThreads(0));
        due.is("most threads but 2", 3198, () -> book.getThreads(1));
    }

    private void share(Settbook book, int sett, int shade, int want) {
        due.is("share of " + shade + " in " + sett, want, () -> book.getShare(sett, shade));
    }

    private void shares() {
        Settbook book = Due.bookOfShades(12);
        Due.sett(book, true, 0, 2, 11, 200);
        share(book, 0, 0, 9);
        share(book, 0, 11, 990);
        share(book, 0, 1, 0);
        Due.sett(book, true, 0, 2, 1, 2, 2, 2);
        share(book, 1, 0, 250);
        share(book, 1, 1, 500);
        share(book, 1, 2, 250);
        Due.sett(book, false, 0, 2, 1, 2, 2, 2);
        share(book, 2, 0, 333);
        Due.sett(book, true, 0, 2, 1, 4, 0, 6, 1, 8, 0, 10);
        share(book, 3, 0, 24 * 1000 / 48);
        share(book, 3, 1, 24 * 1000 / 48);
        int[] longest = new int[32];
        for (int i = 0; i < 16; i++) {
            longest[2 * i] = i == 0 ? 2 : i % 2;
            longest[2 * i + 1] = i == 0 ? 2 : 200;
        }
        Due.sett(book, true, longest);
        share(book, 4, 2, 0);
        share(book, 4, 1, 3000 * 1000 / 5802);
        share(book, 4, 0, 2800 * 1000 / 5802);
    }

    private void mean(Settbook book, int sett, int part, int want) {
        due.is("mean of part " + part + " in " + sett, want, () -> book.meanPart(sett, part));
    }

    private void means() {
        Settbook book = new Settbook();
        book.addShade('K', 0, 0, 0);
        book.addShade('W', 31, 31, 31);
        book.addShade('R', 31, 1, 0);
        Due.sett(book, false, 0, 2, 1, 200);
        mean(book, 0, 0, 30);
        mean(book, 0, 2, 30);
        Due.sett(book, false, 0, 200, 1, 2);
        mean(book, 1, 1, 0);
        Due.sett(book, false, 1, 200, 2, 200);
        mean(book, 2, 0, 31);
        mean(book, 2, 1, 16);
        mean(book, 2, 2, 15);
        Due.sett(book, true, 0, 4, 1, 2, 2, 4);
        mean(book, 3, 0, 248 / 12);
        mean(book, 3, 1, 128 / 12);
        mean(book, 3, 2, 124 / 12);
        int[] longest = new int[32];
        for (int i = 0; i < 16; i++) {
            longest[2 * i] = 1 + i % 2;
            longest[2 * i + 1] = 200;
        }
        Due.sett(book, true, longest);
        mean(book, 4, 0, 31);
        mean(book, 4, 1, 16);
        mean(book, 4, 2, 15);
    }
}
