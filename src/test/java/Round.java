import java.util.Arrays;

/** The round of a told sett worked out the long way, as rows of shade, count, shade, count and so on. */
final class Round {
    final int[] stripes;
    final int size;
    final int[] threads;

    private Round(int[] stripes) {
        this.stripes = stripes;
        size = stripes.length / 2;
        threads = threadsOf(stripes);
    }

    static Round of(boolean isMirrored, int... told) {
        if (!isMirrored) {
            return new Round(told.clone());
        }
        int[] both = Arrays.copyOf(told, 2 * told.length - 4);
        int next = told.length;
        for (int back = told.length - 4; back > 0; back -= 2) {
            both[next] = told[back];
            both[next + 1] = told[back + 1];
            next += 2;
        }
        return new Round(both);
    }

    private static int[] threadsOf(int[] stripes) {
        int[] threads = new int[0];
        for (int i = 0; i < stripes.length; i += 2) {
            int begin = threads.length;
            threads = Arrays.copyOf(threads, begin + stripes[i + 1]);
            Arrays.fill(threads, begin, threads.length, stripes[i]);
        }
        return threads;
    }

    int shade(int index) {
        return stripes[2 * Math.floorMod(index, size)];
    }

    int count(int index) {
        return stripes[2 * Math.floorMod(index, size) + 1];
    }

    /** The shade of a thread, gone round and round, back from the first one too. */
    int thread(int thread) {
        return threads[Math.floorMod(thread, threads.length)];
    }

    int firstThread(int stripe) {
        int sum = 0;
        for (int i = 0; i < stripe; i++) {
            sum += count(i);
        }
        return sum;
    }

    /** So many stripes from one on, in the direction 1 or -1. */
    int[] turn(int begin, int step, int length) {
        int[] turn = new int[2 * length];
        for (int i = 0; i < length; i++) {
            turn[2 * i] = shade(begin + step * i);
            turn[2 * i + 1] = count(begin + step * i);
        }
        return turn;
    }

    int[] form() {
        int[] form = turn(0, 1, size);
        for (int begin = 0; begin < size; begin++) {
            for (int step = -1; step <= 1; step += 2) {
                int[] turn = turn(begin, step, size);
                form = Arrays.compare(turn, form) < 0 ? turn : form;
            }
        }
        return form;
    }

    int percent(int index) {
        return 100 * count(index) / threads.length;
    }
}
