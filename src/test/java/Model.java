import java.util.ArrayList;
import java.util.Collections;
import java.util.List;
import java.util.NoSuchElementException;

/** The document told a second time, without care for speed: every stripe is a list of shade and count. */
final class Model {
    private static final class Entry {
        List<List<Integer>> told;
        boolean isMirrored;
        char kind;
        int owner;
        int year = -1;
        boolean isOut;
        List<Integer> consents = new ArrayList<>();
    }

    private static final class Page {
        int sett;
        List<Integer> counts = new ArrayList<>();
    }

    private final List<int[]> shades = new ArrayList<>();
    private final StringBuilder letters = new StringBuilder();
    private final List<List<Integer>> row = new ArrayList<>();
    private final List<Entry> setts = new ArrayList<>();
    private final List<Page> pages = new ArrayList<>();
    private final List<int[]> warps = new ArrayList<>();
    private final List<Integer> orders = new ArrayList<>();
    private Integer loss;
    private int ruling = 100;
    private int waste;

    /** Answers a call by its name; numbers stand for chars and booleans too. */
    Object call(String name, int[] a) {
        switch (name) {
            case "addShade": return addShade((char) a[0], a[1], a[2], a[3]);
            case "getPart": return getPart(a[0], (char) a[1], a[2]);
            case "shadeDistance": shade(a[0]); shade(a[1]); return apart(a[0], a[1]);
            case "addStripe": return addStripe(a[0], a[1]);
            case "clearStripes": { int had = row.size(); row.clear(); return had; }
            case "makeSett": return makeSett(a[0] == 1);
            case "getThreads": return threads(sett(a[0])).size();
            case "countStripes": return round(sett(a[0])).size();
            case "getShade": return stripe(round(sett(a[0])), a[1]).get(0);
            case "getCount": return stripe(round(sett(a[0])), a[1]).get(1);
            case "formShade": return stripe(form(sett(a[0])), a[1]).get(0);
            case "formCount": return stripe(form(sett(a[0])), a[1]).get(1);
            case "isAlike": return alike(sett(a[0]), sett(a[1]));
            case "lowestAlike": return lowestAlike(a[0]);
            case "shadeOf": sett(a[0]); range(a[1], 0, 99999); return thread(sett(a[0]), a[1]);
            case "getShare": return share(a[0], a[1]);
            case "meanPart": return meanPart(a[0], a[1]);
            case "joins": return over(a[0], a[1], a[2]) == 0;
            case "over": return over(a[0], a[1], a[2]);
            case "scale": return scale(a[0], a[1], a[2]);
            case "getLoss": none(loss == null); return loss;
            case "twillAt": return twill(a[0], a[1], a[2]);
            case "distance": return distance(sett(a[0]), sett(a[1]));
            case "setRuling": { range(a[0], 0, 9999); int before = ruling; ruling = a[0]; return before; }
            case "register": return register(a[0], (char) a[1], a[2], a[3]);
            default: return callMore(name, a);
        }
    }

    private Object callMore(String name, int[] a) {
        switch (name) {
            case "withdraw": return withdraw(a[0]);
            case "isContested": return rival(entered(a[0])) >= 0;
            case "contestedBy": { int by = rival(entered(a[0])); none(by < 0); return by; }
            case "consent": return consent(a[0], a[1]);
            case "mayWeave": sett(a[0]); range(a[1], 0, 9); return may(a[0], a[1]);
            case "rightOf": { int by = right(sett(a[0])); none(by < 0); return by; }
            case "pleatShade": return pleatShade(a[0], a[1] == 1, a[2], a[3], a[4], a[5]);
            case "isPlain": return pleat(a[0], a[1] == 1, a[2], a[3], a[4]).stream().distinct().count() == 1;
            case "threadsUsed": return used(a[0], a[1] == 1, a[2], a[3]);
            case "order": return order(a[0], a[1], a[2]);
            case "warpOf": index(a[0], orders.size()); return orders.get(a[0]);
            case "left": index(a[0], warps.size()); return warps.get(a[0])[1];
            case "cut": return cut();
            case "getWaste": return waste;
            case "addCopy": return addCopy(a[0]);
            case "miscopy": return miscopy(a[0], a[1], a[2]);
            case "parentOf": index(a[0], pages.size()); return parent(a[0]);
            case "depth": index(a[0], pages.size()); return depth(a[0]);
            case "fits": { Entry entry = sett(a[0]); scrap(); return fits(entry); }
            case "countFits": scrap(); return (int) setts.stream().filter(this::fits).count();
            case "checksum": return checksum();
            case "contestedShare": return contestedShare();
            case "meanThreads": return meanThreads();
            case "isSound": return true;
            default: throw new AssertionError(name);
        }
    }

    private static void index(int index, int size) {
        if (index < 0 || index >= size) {
            throw new IndexOutOfBoundsException();
        }
    }

    private static void range(int value, int least, int most) {
        argument(value < least || value > most);
    }

    private static void argument(boolean isWrong) {
        if (isWrong) {
            throw new IllegalArgumentException();
        }
    }

    private static void unsupported(boolean isWrong) {
        if (isWrong) {
            throw new UnsupportedOperationException();
        }
    }

    private static void state(boolean isWrong) {
        if (isWrong) {
            throw new IllegalStateException();
        }
    }

    private static void none(boolean isWrong) {
        if (isWrong) {
            throw new NoSuchElementException();
        }
    }

    private void shade(int shade) {
        index(shade, shades.size());
    }

    private Entry sett(int sett) {
        index(sett, setts.size());
        return setts.get(sett);
    }

    private int entered(int sett) {
        unsupported(sett(sett).year < 0);
        return sett;
    }

    private void scrap() {
        unsupported(row.isEmpty());
    }

    private static List<Integer> stripe(List<List<Integer>> stripes, int index) {
        none(index < 0 || index >= stripes.size());
        return stripes.get(index);
    }

    private int addShade(char letter, int red, int green, int blue) {
        argument("ABCDEFGHIJKLMNOPQRSTUVWXYZ".indexOf(letter) < 0);
        for (int part : new int[] {red, green, blue}) {
            range(part, 0, 31);
        }
        unsupported(letters.indexOf(String.valueOf(letter)) >= 0);
        state(shades.size() == 12);
        letters.append(letter);
        shades.add(new int[] {red, green, blue});
        return shades.size() - 1;
    }

    private int getPart(int shade, char era, int part) {
        shade(shade);
        argument("maw".indexOf(era) < 0);
        range(part, 0, 2);
        int[] eras = {shades.get(shade)[part], shades.get(shade)[part] + 8, shades.get(shade)[part] / 2 + 6};
        return Math.min(31, eras["maw".indexOf(era)]);
    }

    private int apart(int shade, int other) {
        int sum = 0;
        for (int i = 0; i < 3; i++) {
            int difference = shades.get(shade)[i] - shades.get(other)[i];
            sum += difference < 0 ? -difference : difference;
        }
        return sum;
    }

    private int addStripe(int shade, int count) {
        shade(shade);
        range(count, 1, 200);
        state(row.size() == 16);
        row.add(List.of(shade, count));
        return row.size();
    }

    private int makeSett(boolean isMirrored) {
        unsupported(row.size() < 2);
        for (int i = 0; i < row.size(); i++) {
            unsupported(row.get(i).get(1) % 2 == 1);
            int next = (i + 1) % row.size();
            boolean isSeam = next == 0;
            unsupported(row.get(i).get(0).equals(row.get(next).get(0)) && !(isSeam && isMirrored));
        }
        return keep(new ArrayList<>(row), isMirrored);
    }

    private int keep(List<List<Integer>> told, boolean isMirrored) {
        state(setts.size() == 20);
        Entry entry = new Entry();
        entry.told = told;
        entry.isMirrored = isMirrored;
        setts.add(entry);
        return setts.size() - 1;
    }

    private static List<List<Integer>> round(Entry entry) {
        List<List<Integer>> round = new ArrayList<>(entry.told);
        if (entry.isMirrored) {
            List<List<Integer>> between = new ArrayList<>(entry.told.subList(1, entry.told.size() - 1));
            Collections.reverse(between);
            round.addAll(between);
        }
        return round;
    }

    private static List<List<List<Integer>>> turns(List<List<Integer>> round) {
        List<List<List<Integer>>> turns = new ArrayList<>();
        List<List<Integer>> turn = new ArrayList<>(round);
        for (int i = 0; i < 2 * round.size(); i++) {
            turns.add(new ArrayList<>(turn));
            Collections.rotate(turn, 1);
            if (i == round.size() - 1) {
                Collections.reverse(turn);
            }
        }
        return turns;
    }

    private static List<List<Integer>> form(Entry entry) {
        return Collections.min(turns(round(entry)), (first, second) -> {
            for (int i = 0; i < 2 * first.size(); i++) {
                int order = first.get(i / 2).get(i % 2).compareTo(second.get(i / 2).get(i % 2));
                if (order != 0) {
                    return order;
                }
            }
            return 0;
        });
    }

    private static boolean alike(Entry entry, Entry other) {
        return turns(round(entry)).contains(round(other));
    }

    private int lowestAlike(int sett) {
        sett(sett);
        int lowest = sett;
        for (int i = sett; i >= 0; i--) {
            lowest = alike(setts.get(i), setts.get(sett)) ? i : lowest;
        }
        return lowest;
    }

    private static List<Integer> threads(Entry entry) {
        List<Integer> threads = new ArrayList<>();
        for (List<Integer> stripe : round(entry)) {
            threads.addAll(Collections.nCopies(stripe.get(1), stripe.get(0)));
        }
        return threads;
    }

    private static int thread(Entry entry, int thread) {
        List<Integer> threads = threads(entry);
        return threads.get((thread % threads.size() + threads.size()) % threads.size());
    }

    private int share(int sett, int shade) {
        Entry entry = sett(sett);
        shade(shade);
        return Collections.frequency(threads(entry), shade) * 1000 / threads(entry).size();
    }

    private int meanPart(int sett, int part) {
        Entry entry = sett(sett);
        range(part, 0, 2);
        int sum = threads(entry).stream().mapToInt(shade -> shades.get(shade)[part]).sum();
        return sum / threads(entry).size();
    }

    private int over(int sett, int width, int perUnit) {
        Entry entry = sett(sett);
        range(width, 1, 99);
        range(perUnit, 1, 99);
        int over = width * perUnit;
        while (over >= threads(entry).size()) {
            over -= threads(entry).size();
        }
        return over;
    }

    private int scale(int sett, int number, int divisor) {
        Entry entry = sett(sett);
        range(number, 1, 20);
        range(divisor, 1, 20);
        List<List<Integer>> told = new ArrayList<>();
        int greatest = 0;
        for (List<Integer> stripe : entry.told) {
            int wanted = stripe.get(1) * number;
            int best = 2;
            for (int even = 2; even <= 4000; even += 2) {
                best = Math.abs(even * divisor - wanted) <= Math.abs(best * divisor - wanted) ? even : best;
            }
            told.add(List.of(stripe.get(0), best));
            greatest = Math.max(greatest, Math.abs(best * divisor - wanted));
        }
        unsupported(told.stream().anyMatch(stripe -> stripe.get(1) > 200));
        int made = keep(told, entry.isMirrored);
        loss = greatest;
        return made;
    }

    private int twill(int sett, int warp, int weft) {
        Entry entry = sett(sett);
        range(warp, 0, 99999);
        range(weft, 0, 99999);
        int rest = (warp + weft) % 4;
        return thread(entry, rest == 0 || rest == 1 ? weft : warp);
    }

    private int distance(Entry entry, Entry other) {
        List<List<Integer>> first = round(entry);
        int least = Integer.MAX_VALUE;
        for (List<List<Integer>> turn : turns(round(other))) {
            int sum = 0;
            for (int i = 0; i < 16; i++) {
                List<Integer> here = first.get(i % first.size());
                List<Integer> there = turn.get(i % turn.size());
                sum += apart(here.get(0), there.get(0));
                int share = 100 * here.get(1) / threads(entry).size();
                int otherShare = 100 * there.get(1) / threads(other).size();
                sum += Math.abs(share - otherShare);
            }
            least = Math.min(least, sum);
        }
        return least;
    }

    private int register(int sett, char kind, int owner, int year) {
        Entry entry = sett(sett);
        argument("cdfpn".indexOf(kind) < 0);
        range(owner, 0, 9);
        range(year, 1500, 2000);
        unsupported(entry.year >= 0);
        entry.kind = kind;
        entry.owner = owner;
        entry.year = year;
        return (int) setts.stream().filter(each -> each.year >= 0).count();
    }

    /** The registered setts, those that go ahead first. */
    private List<Integer> ahead() {
        List<Integer> numbers = new ArrayList<>();
        for (int i = 0; i < setts.size(); i++) {
            if (setts.get(i).year >= 0) {
                numbers.add(i);
            }
        }
        numbers.sort((first, second) -> Integer.compare(setts.get(first).year, setts.get(second).year));
        return numbers;
    }

    private int rival(int sett) {
        for (int each : ahead()) {
            if (each == sett) {
                return -1;
            }
            Entry low = setts.get(Math.min(each, sett));
            Entry high = setts.get(Math.max(each, sett));
            if (!setts.get(each).isOut && distance(low, high) < ruling) {
                return each;
            }
        }
        return -1;
    }

    private boolean withdraw(int sett) {
        entered(sett);
        unsupported(setts.get(sett).isOut);
        setts.get(sett).isOut = true;
        return rival(sett) >= 0;
    }

    private boolean consent(int sett, int applicant) {
        Entry entry = sett(sett);
        range(applicant, 0, 9);
        unsupported(entry.year < 0 || entry.kind != 'c');
        boolean was = entry.consents.contains(applicant);
        entry.consents.add(applicant);
        return was;
    }

    private int right(Entry entry) {
        for (int each : ahead()) {
            if (alike(setts.get(each), entry)) {
                return each;
            }
        }
        return -1;
    }

    private boolean may(int sett, int applicant) {
        int by = right(setts.get(sett));
        if (by < 0 || setts.get(by).owner == applicant) {
            return true;
        }
        Entry entry = setts.get(by);
        boolean isOpen = entry.kind == 'd' || entry.kind == 'n'
            || entry.kind == 'c' && entry.consents.contains(applicant);
        return isOpen && !entry.isOut && rival(by) < 0;
    }

    private List<Integer> pleat(int sett, boolean isSett, int stripe, int seen, int pleat) {
        Entry entry = sett(sett);
        range(seen, 1, 40);
        range(pleat, 0, 99);
        int begin = pleat * seen;
        if (!isSett) {
            int half = stripe(round(entry), stripe).get(1) / 2;
            int first = round(entry).subList(0, stripe).stream().mapToInt(each -> each.get(1)).sum();
            begin = first + half - seen / 2;
        }
        List<Integer> shown = new ArrayList<>();
        for (int i = 0; i < seen; i++) {
            shown.add(thread(entry, begin + i));
        }
        return shown;
    }

    private int pleatShade(int sett, boolean isSett, int stripe, int seen, int pleat, int index) {
        List<Integer> shown = pleat(sett, isSett, stripe, seen, pleat);
        none(index < 0 || index >= shown.size());
        return shown.get(index);
    }

    private int used(int sett, boolean isSett, int seen, int pleats) {
        Entry entry = sett(sett);
        range(seen, 1, 40);
        range(pleats, 1, 100);
        int used = 0;
        for (int i = 0; i < pleats; i++) {
            used += threads(entry).size() + (isSett ? seen : 0);
        }
        return used;
    }

    private int order(int sett, int length, int applicant) {
        Entry entry = sett(sett);
        range(length, 1, 99);
        range(applicant, 0, 9);
        unsupported(!may(sett, applicant));
        state(orders.size() == 20);
        int warp = 0;
        while (warp < warps.size()
            && !(alike(setts.get(warps.get(warp)[0]), entry) && warps.get(warp)[1] >= length)) {
            warp++;
        }
        state(warp == 10);
        if (warp == warps.size()) {
            warps.add(new int[] {sett, length > 60 ? length : 60});
        }
        warps.get(warp)[1] -= length;
        orders.add(warp);
        return orders.size() - 1;
    }

    private int cut() {
        int wasted = warps.stream().mapToInt(warp -> warp[1]).sum();
        warps.clear();
        orders.clear();
        waste += wasted;
        return wasted;
    }

    private int addCopy(int sett) {
        Entry entry = sett(sett);
        state(pages.size() == 16);
        Page page = new Page();
        page.sett = sett;
        entry.told.forEach(stripe -> page.counts.add(stripe.get(1)));
        pages.add(page);
        return pages.size() - 1;
    }

    private List<Integer> errors(Page page) {
        List<Integer> errors = new ArrayList<>();
        for (int i = 0; i < page.counts.size(); i++) {
            if (!page.counts.get(i).equals(setts.get(page.sett).told.get(i).get(1))) {
                errors.add(i);
            }
        }
        return errors;
    }

    private int miscopy(int copy, int stripe, int count) {
        index(copy, pages.size());
        range(count, 1, 200);
        Page page = pages.get(copy);
        none(stripe < 0 || stripe >= page.counts.size());
        page.counts.set(stripe, count);
        return errors(page).size();
    }

    private int parent(int copy) {
        Page page = pages.get(copy);
        int parent = -1;
        int most = 0;
        for (int i = copy - 1; i >= 0; i--) {
            Page each = pages.get(i);
            if (each.sett != page.sett) {
                continue;
            }
            List<Integer> both = errors(each);
            both.removeIf(stripe -> !each.counts.get(stripe).equals(page.counts.get(stripe)));
            int worth = both.size() - (errors(each).size() - both.size());
            if (worth > most || worth == most && worth > 0) {
                most = worth;
                parent = i;
            }
        }
        return parent;
    }

    private int depth(int copy) {
        return copy < 0 ? 0 : 1 + depth(parent(copy));
    }

    private boolean fits(Entry entry) {
        for (List<List<Integer>> turn : turns(round(entry))) {
            boolean isFit = true;
            for (int i = 0; i < row.size(); i++) {
                List<Integer> there = turn.get(i % turn.size());
                boolean isTorn = i == 0 || i == row.size() - 1;
                int least = row.get(i).get(1);
                int most = isTorn ? 200 : least;
                isFit &= there.get(0).equals(row.get(i).get(0)) && there.get(1) >= least && there.get(1) <= most;
            }
            if (isFit) {
                return true;
            }
        }
        return false;
    }

    private long checksum() {
        long sum = 7;
        for (Entry entry : setts) {
            sum = sum * 31 + threads(entry).size();
            sum = sum * 31 + form(entry).get(0).get(0);
            sum = sum * 31 + form(entry).get(0).get(1);
        }
        return sum * 31 + waste;
    }

    private float contestedShare() {
        if (ahead().isEmpty()) {
            throw new ArithmeticException();
        }
        float contested = ahead().stream().filter(sett -> rival(sett) >= 0).count();
        return contested / ahead().size();
    }

    private double meanThreads() {
        if (setts.isEmpty()) {
            throw new ArithmeticException();
        }
        double sum = setts.stream().mapToInt(entry -> threads(entry).size()).sum();
        return sum / setts.size();
    }
}
