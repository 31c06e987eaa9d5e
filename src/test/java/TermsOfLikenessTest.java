import java.util.Arrays;

/** What the document's Terms say of the distance of a sett to another one, sentence by sentence, at the edges. */
public final class TermsOfLikenessTest {
    /** Five shades that are far apart, and for each of the first three two that are near. */
    private static final int[][] SHADES = {{0, 0, 0}, {31, 0, 0}, {0, 31, 0}, {0, 0, 31}, {31, 31, 31}, {9, 8, 8},
        {20, 11, 11}, {2, 0, 0}, {31, 1, 0}, {0, 31, 3}, {31, 0, 31}, {15, 15, 15}};

    private final Due due = new Due();

    public static void main(String[] args) {
        TermsOfLikenessTest test = new TermsOfLikenessTest();
        test.sixteenOfTwo();
        test.sixteenOfThree();
        test.sixteenOfFive();
        test.sixteenOfSixteen();
        test.sixteenOfThirty();
        test.percentsAreCut();
        test.allBeginningsAndDirections();
        test.fromTheFirstStripeOn();
        test.zeroButNotAlike();
        test.allPairs(true);
        test.allPairs(false);
        test.due.end();
    }

    private static Settbook book() {
        Settbook book = new Settbook();
        for (int i = 0; i < SHADES.length; i++) {
            book.addShade((char) ('A' + i), SHADES[i][0], SHADES[i][1], SHADES[i][2]);
        }
        return book;
    }

    private static int apart(int shade, int other) {
        int sum = 0;
        for (int part = 0; part < 3; part++) {
            sum += Math.abs(SHADES[shade][part] - SHADES[other][part]);
        }
        return sum;
    }

    private static int distance(Round first, Round second) {
        int least = Integer.MAX_VALUE;
        for (int begin = 0; begin < second.size; begin++) {
            for (int step = -1; step <= 1; step += 2) {
                int sum = 0;
                for (int i = 0; i < 16; i++) {
                    int there = begin + step * i;
                    sum += apart(first.shade(i), second.shade(there));
                    sum += Math.abs(first.percent(i) - second.percent(there));
                }
                least = Math.min(least, sum);
            }
        }
        return least;
    }

    private void distance(String name, int want, Settbook book, int sett, int other) {
        due.is(name + ", " + sett + " to " + other, want, () -> book.distance(sett, other));
    }

    private void both(String name, int want, Settbook book, int sett, int other) {
        distance(name, want, book, sett, other);
        distance(name, want, book, other, sett);
    }

    private void sixteenOfTwo() {
        Settbook book = book();
        Due.sett(book, false, 0, 4, 1, 4);
        Due.sett(book, false, 7, 4, 1, 4);
        Due.sett(book, false, 0, 4, 8, 4);
        Due.sett(book, false, 7, 4, 8, 4);
        both("the first of two, by 2", 8 * 2, book, 0, 1);
        both("the second of two, by 1", 8, book, 0, 2);
        both("both of two", 8 * 3, book, 0, 3);
        both("one and the other", 8 * 3, book, 1, 2);
    }

    private void sixteenOfThree() {
        Settbook book = book();
        Due.sett(book, false, 0, 4, 1, 4, 2, 4);
        Due.sett(book, false, 7, 4, 1, 4, 2, 4);
        Due.sett(book, false, 0, 4, 8, 4, 2, 4);
        Due.sett(book, false, 0, 4, 1, 4, 9, 4);
        both("the first of three stands there 6 times", 6 * 2, book, 0, 1);
        both("the second of three 5 times", 5, book, 0, 2);
        both("the third of three 5 times", 5 * 3, book, 0, 3);
        both("the first and the second", 6 * 2 + 5, book, 1, 2);
        both("the second and the third", 5 + 5 * 3, book, 2, 3);
    }

    private void sixteenOfFive() {
        Settbook book = book();
        Due.sett(book, false, 0, 4, 1, 4, 2, 4, 3, 4, 4, 4);
        Due.sett(book, false, 5, 4, 1, 4, 2, 4, 3, 4, 4, 4);
        Due.sett(book, false, 0, 4, 6, 4, 2, 4, 3, 4, 4, 4);
        Due.sett(book, false, 7, 4, 1, 4, 2, 4, 3, 4, 4, 4);
        Due.sett(book, false, 0, 4, 1, 4, 2, 4, 10, 4, 4, 4);
        both("the first of five stands there 4 times", 4 * 25, book, 0, 1);
        both("the second of five 3 times", 3 * 33, book, 0, 2);
        both("the first of five, by 2", 4 * 2, book, 0, 3);
        both("the fourth of five, by 31", 3 * 31, book, 0, 4);
    }

    private static int[] sixteen() {
        int[] told = new int[32];
        for (int i = 0; i < 16; i++) {
            told[2 * i] = new int[] {0, 1, 2, 3, 4, 0, 2, 4, 1, 3, 0, 4, 3, 2, 1, 4}[i];
            told[2 * i + 1] = 10;
        }
        return told;
    }

    private void sixteenOfSixteen() {
        int[] near = {7, 8, 9, 10, 10, 7, 9, 10, 8, 10, 7, 10, 10, 9, 8, 10};
        int[] want = {2, 1, 3, 31, 31, 2, 3, 31, 1, 31, 2, 31, 31, 3, 1, 31};
        for (int place = 0; place < 16; place++) {
            Settbook book = book();
            int[] other = sixteen();
            other[2 * place] = near[place];
            Due.sett(book, false, sixteen());
            Due.sett(book, false, other);
            both("stripe " + place + " of sixteen once", want[place], book, 0, 1);
        }
    }

    /** Of the 30 stripes of a mirrored round those from 0 to 15 alone are looked at, each of 3 percent. */
    private void sixteenOfThirty() {
        Settbook book = book();
        int[] other = sixteen();
        other[30] = 10;
        Due.sett(book, true, sixteen());
        Due.sett(book, false, sixteen());
        Due.sett(book, true, other);
        both("sixteen of thirty", 16 * 3, book, 0, 1);
        both("the last pivot of thirty once", 31, book, 0, 2);
        distance("thirty to itself", 0, book, 0, 0);
    }

    private void percentsAreCut() {
        Settbook book = book();
        Due.sett(book, false, 0, 2, 1, 4);
        Due.sett(book, false, 0, 2, 1, 2);
        Due.sett(book, false, 0, 66, 1, 134);
        Due.sett(book, false, 0, 2, 1, 200);
        Due.sett(book, false, 0, 4, 1, 196);
        Due.sett(book, false, 0, 2, 1, 198);
        both("33 and 66 to 50 and 50", 8 * (17 + 16), book, 0, 1);
        both("33 and 66 to 33 and 67", 8, book, 0, 2);
        both("0 and 99 to 2 and 98", 8 * 3, book, 3, 4);
        both("0 and 99 to 1 and 99", 8, book, 3, 5);
        both("1 and 99 to 33 and 67", 8 * 64, book, 2, 5);
        both("50 and 50 to 0 and 99", 8 * 99, book, 1, 3);
    }

    private void allBeginningsAndDirections() {
        int[] told = sixteen();
        for (int size : new int[] {2, 3, 5, 15, 16}) {
            Round round = Round.of(false, Arrays.copyOf(told, 2 * size));
            for (int begin = 0; begin < size; begin++) {
                Settbook book = book();
                Due.sett(book, false, round.stripes);
                Due.sett(book, false, round.turn(begin, 1, size));
                Due.sett(book, false, round.turn(begin, -1, size));
                both(size + " begun at " + begin, 0, book, 0, 1);
                both(size + " begun at " + begin + ", back", 0, book, 0, 2);
                both(size + ", forth and back", 0, book, 1, 2);
            }
        }
    }

    /** The first stripe of the first round stands there 6 times, whichever one the other begins with. */
    private void fromTheFirstStripeOn() {
        Settbook book = book();
        Due.sett(book, false, 0, 4, 1, 4, 2, 4);
        Due.sett(book, false, 1, 4, 2, 4, 0, 4);
        Due.sett(book, false, 2, 4, 0, 4, 1, 4);
        Due.sett(book, false, 7, 4, 1, 4, 2, 4);
        distance("begun at the near one", 6 * 2, book, 0, 3);
        distance("begun ahead of the last one", 5 * 2, book, 1, 3);
        distance("begun behind the first one", 5 * 2, book, 2, 3);
        distance("to one begun at the near one", 6 * 2, book, 3, 0);
        distance("to one begun behind it", 6 * 2, book, 3, 1);
        distance("to one begun ahead of it", 6 * 2, book, 3, 2);
    }

    private void zeroButNotAlike() {
        Settbook book = book();
        Due.sett(book, false, 0, 2, 1, 4);
        Due.sett(book, false, 0, 68, 1, 134);
        Due.sett(book, false, 0, 2, 1, 4, 0, 2, 1, 4);
        both("33 and 66, cut", 0, book, 0, 1);
        due.is("not alike by counts", false, () -> book.isAlike(0, 1));
        both("16 and 33 to 33 and 66", 8 * (17 + 33), book, 0, 2);
        distance("twice to itself", 0, book, 2, 2);
    }

    private static int[] told(int seed, int size) {
        int[] told = new int[2 * size];
        for (int i = 0; i < size; i++) {
            told[2 * i] = i == size - 1 ? 11 : (seed * i + i * i / 3 + seed) % 5 * 2 + i % 2;
            told[2 * i + 1] = 2 + 2 * ((seed * seed + 7 * i * i + 3 * i) % 30);
        }
        return told;
    }

    /** All setts to all others, of rounds from 2 to 30 stripes. */
    private void allPairs(boolean isFirstMirrored) {
        Round[] rounds = new Round[20];
        for (int i = 0; i < 20; i++) {
            rounds[i] = Round.of(isFirstMirrored == (i % 2 == 0), told(i, size(i)));
        }
        for (int i = 0; i < 20; i++) {
            Settbook book = bookOfPairs(isFirstMirrored);
            for (int j = 0; j < 20; j++) {
                distance("of all pairs", distance(rounds[i], rounds[j]), book, i, j);
            }
        }
    }

    private static Settbook bookOfPairs(boolean isFirstMirrored) {
        Settbook book = book();
        for (int i = 0; i < 20; i++) {
            Due.sett(book, isFirstMirrored == (i % 2 == 0), told(i, size(i)));
        }
        return book;
    }

    private static int size(int number) {
        return number < 15 ? number + 2 : 3 * (number - 14);
    }
}
