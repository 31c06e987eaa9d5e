import java.util.ArrayList;
import java.util.NoSuchElementException;

/**
 * A house of tartans: shades, setts, cloths, likenesses, rights, pleats, mills, copies and scraps. Its public
 * methods stand in the order of the promises of DOC.md, where it is said what each one answers and refuses.
 */
public final class Settbook {
    private static final int ROW_LIMIT = 16;
    private static final int COUNT_MOST = 200;
    private static final int SETT_LIMIT = 20;
    private static final int COPY_LIMIT = 16;
    private static final int PART_MOST = 31;
    private static final int ANCIENT_SHIFT = 8;
    private static final int WEATHERED_SHIFT = 6;
    private static final int THREAD_MOST = 99999;
    private static final int CLOTH_MOST = 99;
    private static final int SCALE_MOST = 20;
    private static final int STRIPES_COMPARED = 16;
    private static final int RULING_MOST = 9999;
    private static final int FIRST_RULING = 100;
    private static final int PERSON_MOST = 9;
    private static final int PROOF_LEAST = 1500;
    private static final int PROOF_MOST = 2000;
    private static final int SEEN_MOST = 40;
    private static final int PLEAT_MOST = 99;
    private static final int PLEATS_MOST = 100;
    private static final int LENGTH_MOST = 99;
    private static final int NONE = -1;

    private final Palette palette = new Palette();
    private final Row row = new Row(ROW_LIMIT);
    private final ArrayList<Sett> setts = new ArrayList<Sett>();
    private final ArrayList<Copy> copies = new ArrayList<Copy>();
    private final Mill mill = new Mill();
    private int loss = NONE;
    private int ruling = FIRST_RULING;
    private int registered = 0;
    private int waste = 0;

    public Settbook() {
    }

    public int addShade(char letter, int red, int green, int blue)
            throws IllegalArgumentException, UnsupportedOperationException, IllegalStateException {
        if (letter < 'A' || letter > 'Z') {
            throw new IllegalArgumentException("no letter");
        }
        requireWithin(red, 0, PART_MOST);
        requireWithin(green, 0, PART_MOST);
        requireWithin(blue, 0, PART_MOST);
        if (palette.hasLetter(letter)) {
            throw new UnsupportedOperationException("another shade has the letter");
        }
        if (palette.isFull()) {
            throw new IllegalStateException("no room for a shade");
        }
        return palette.put(letter, red, green, blue);
    }

    public int getPart(int shade, char era, int part)
            throws IndexOutOfBoundsException, IllegalArgumentException {
        requireShade(shade);
        requirePart(part);
        if (era != 'm' && era != 'a' && era != 'w') {
            throw new IllegalArgumentException("no such era");
        }
        int modern = palette.partAt(shade, part);
        if (era == 'm') {
            return modern;
        }
        return era == 'a' ? Math.min(modern + ANCIENT_SHIFT, PART_MOST) : modern / 2 + WEATHERED_SHIFT;
    }

    public int shadeDistance(int shade, int other) throws IndexOutOfBoundsException {
        requireShade(shade);
        requireShade(other);
        return palette.apart(shade, other);
    }

    public int addStripe(int shade, int count)
            throws IndexOutOfBoundsException, IllegalArgumentException, IllegalStateException {
        requireShade(shade);
        requireWithin(count, 1, COUNT_MOST);
        if (row.isFull()) {
            throw new IllegalStateException("no room for a stripe");
        }
        row.put(shade, count);
        return row.size;
    }

    public int clearStripes() {
        int had = row.size;
        row.clear();
        return had;
    }

    public int makeSett(boolean isMirrored) throws UnsupportedOperationException, IllegalStateException {
        if (!row.canBeSett(isMirrored)) {
            throw new UnsupportedOperationException("the row can be no sett");
        }
        requireRoomForSett();
        return keepSett(row.copied(), isMirrored);
    }

    public int getThreads(int sett) throws IndexOutOfBoundsException {
        return settAt(sett).threads;
    }

    public int countStripes(int sett) throws IndexOutOfBoundsException {
        return settAt(sett).round.size;
    }

    public int getShade(int sett, int index) throws IndexOutOfBoundsException, NoSuchElementException {
        Row round = settAt(sett).round;
        requireStripe(round, index);
        return round.shadeAt(index);
    }

    public int getCount(int sett, int index) throws IndexOutOfBoundsException, NoSuchElementException {
        Row round = settAt(sett).round;
        requireStripe(round, index);
        return round.countAt(index);
    }

    public int formShade(int sett, int index) throws IndexOutOfBoundsException, NoSuchElementException {
        Row form = settAt(sett).form;
        requireStripe(form, index);
        return form.shadeAt(index);
    }

    public int formCount(int sett, int index) throws IndexOutOfBoundsException, NoSuchElementException {
        Row form = settAt(sett).form;
        requireStripe(form, index);
        return form.countAt(index);
    }

    public boolean isAlike(int sett, int other) throws IndexOutOfBoundsException {
        Row round = settAt(sett).round;
        return settAt(other).round.isTurnOf(round);
    }

    public int lowestAlike(int sett) throws IndexOutOfBoundsException {
        Row round = settAt(sett).round;
        for (int i = 0; i < setts.size(); i++) {
            if (setts.get(i).round.isTurnOf(round)) {
                return i;
            }
        }
        return sett;
    }

    public int shadeOf(int sett, int thread) throws IndexOutOfBoundsException, IllegalArgumentException {
        Sett found = settAt(sett);
        requireWithin(thread, 0, THREAD_MOST);
        return found.threadShade(thread);
    }

    public int getShare(int sett, int shade) throws IndexOutOfBoundsException {
        Sett found = settAt(sett);
        requireShade(shade);
        return quotient(found.round.threadsOf(shade) * 1000, found.threads);
    }

    public int meanPart(int sett, int part) throws IndexOutOfBoundsException, IllegalArgumentException {
        Sett found = settAt(sett);
        requirePart(part);
        int sum = 0;
        for (int i = 0; i < found.round.size; i++) {
            sum += found.round.countAt(i) * palette.partAt(found.round.shadeAt(i), part);
        }
        return quotient(sum, found.threads);
    }

    public boolean joins(int sett, int width, int perUnit)
            throws IndexOutOfBoundsException, IllegalArgumentException {
        return threadsOver(settAt(sett), width, perUnit) == 0;
    }

    public int over(int sett, int width, int perUnit)
            throws IndexOutOfBoundsException, IllegalArgumentException {
        return threadsOver(settAt(sett), width, perUnit);
    }

    public int scale(int sett, int number, int divisor)
            throws IndexOutOfBoundsException, IllegalArgumentException, UnsupportedOperationException,
            IllegalStateException {
        Sett source = settAt(sett);
        requireWithin(number, 1, SCALE_MOST);
        requireWithin(divisor, 1, SCALE_MOST);
        if (source.told.greatestScaled(number, divisor) > COUNT_MOST) {
            throw new UnsupportedOperationException("a count would be too great");
        }
        requireRoomForSett();
        loss = source.told.lossOfScaling(number, divisor);
        return keepSett(source.told.scaled(number, divisor), source.isMirrored);
    }

    public int getLoss() throws NoSuchElementException {
        if (loss == NONE) {
            throw new NoSuchElementException("there was no scaling");
        }
        return loss;
    }

    public int twillAt(int sett, int warp, int weft)
            throws IndexOutOfBoundsException, IllegalArgumentException {
        Sett found = settAt(sett);
        requireWithin(warp, 0, THREAD_MOST);
        requireWithin(weft, 0, THREAD_MOST);
        boolean isWeftAbove = (warp + weft) % 4 < 2;
        return found.threadShade(isWeftAbove ? weft : warp);
    }

    public int distance(int sett, int other) throws IndexOutOfBoundsException {
        Sett first = settAt(sett);
        return distanceBetween(first, settAt(other));
    }

    public int setRuling(int ruling) throws IllegalArgumentException {
        requireWithin(ruling, 0, RULING_MOST);
        int before = this.ruling;
        this.ruling = ruling;
        return before;
    }

    public int register(int sett, char kind, int owner, int proof)
            throws IndexOutOfBoundsException, IllegalArgumentException, UnsupportedOperationException {
        Sett found = settAt(sett);
        if (kind != 'c' && kind != 'd' && kind != 'f' && kind != 'p' && kind != 'n') {
            throw new IllegalArgumentException("no such kind");
        }
        requireWithin(owner, 0, PERSON_MOST);
        requireWithin(proof, PROOF_LEAST, PROOF_MOST);
        if (found.isRegistered) {
            throw new UnsupportedOperationException("it is registered");
        }
        found.isRegistered = true;
        found.kind = kind;
        found.owner = owner;
        found.proof = proof;
        registered++;
        return registered;
    }

    public boolean withdraw(int sett) throws IndexOutOfBoundsException, UnsupportedOperationException {
        Sett found = registeredAt(sett);
        if (found.isWithdrawn) {
            throw new UnsupportedOperationException("it is withdrawn");
        }
        boolean wasContested = foremostRival(found) != null;
        found.isWithdrawn = true;
        return wasContested;
    }

    public boolean isContested(int sett) throws IndexOutOfBoundsException, UnsupportedOperationException {
        return foremostRival(registeredAt(sett)) != null;
    }

    public int contestedBy(int sett)
            throws IndexOutOfBoundsException, UnsupportedOperationException, NoSuchElementException {
        Sett rival = foremostRival(registeredAt(sett));
        if (rival == null) {
            throw new NoSuchElementException("it is not contested");
        }
        return rival.number;
    }

    public boolean consent(int sett, int applicant)
            throws IndexOutOfBoundsException, IllegalArgumentException, UnsupportedOperationException {
        Sett found = settAt(sett);
        requireWithin(applicant, 0, PERSON_MOST);
        if (!found.isRegistered || found.kind != 'c') {
            throw new UnsupportedOperationException("it is not registered as a clan's");
        }
        boolean wasGiven = found.hasConsent(applicant);
        found.consents |= 1 << applicant;
        return wasGiven;
    }

    public boolean mayWeave(int sett, int applicant)
            throws IndexOutOfBoundsException, IllegalArgumentException {
        Sett found = settAt(sett);
        requireWithin(applicant, 0, PERSON_MOST);
        return isAllowed(found, applicant);
    }

    public int rightOf(int sett) throws IndexOutOfBoundsException, NoSuchElementException {
        Sett right = foremostAlike(settAt(sett));
        if (right == null) {
            throw new NoSuchElementException("there is no right to it");
        }
        return right.number;
    }

    public int pleatShade(int sett, boolean isSett, int stripe, int seen, int pleat, int index)
            throws IndexOutOfBoundsException, IllegalArgumentException, NoSuchElementException {
        Sett found = settAt(sett);
        requirePleat(found, isSett, stripe, seen, pleat);
        if (index < 0 || index >= seen) {
            throw new NoSuchElementException("the pleat shows no such thread");
        }
        return found.threadShade(found.pleatBegin(isSett, stripe, seen, pleat) + index);
    }

    public boolean isPlain(int sett, boolean isSett, int stripe, int seen, int pleat)
            throws IndexOutOfBoundsException, IllegalArgumentException, NoSuchElementException {
        Sett found = settAt(sett);
        requirePleat(found, isSett, stripe, seen, pleat);
        int begin = found.pleatBegin(isSett, stripe, seen, pleat);
        int shade = found.threadShade(begin);
        for (int i = 1; i < seen; i++) {
            if (found.threadShade(begin + i) != shade) {
                return false;
            }
        }
        return true;
    }

    public int threadsUsed(int sett, boolean isSett, int seen, int pleats)
            throws IndexOutOfBoundsException, IllegalArgumentException {
        Sett found = settAt(sett);
        requireWithin(seen, 1, SEEN_MOST);
        requireWithin(pleats, 1, PLEATS_MOST);
        int each = isSett ? found.threads + seen : found.threads;
        return each * pleats;
    }

    public int order(int sett, int length, int applicant)
            throws IndexOutOfBoundsException, IllegalArgumentException, UnsupportedOperationException,
            IllegalStateException {
        Sett found = settAt(sett);
        requireWithin(length, 1, LENGTH_MOST);
        requireWithin(applicant, 0, PERSON_MOST);
        if (!isAllowed(found, applicant)) {
            throw new UnsupportedOperationException("the applicant may not weave it");
        }
        int warp = firstWarpFor(found, length);
        if (mill.isBooked() || warp == NONE && mill.isFull()) {
            throw new IllegalStateException("no room for an order or a warp");
        }
        return mill.put(warp == NONE ? mill.putUp(sett, length) : warp, length);
    }

    public int warpOf(int order) throws IndexOutOfBoundsException {
        if (!mill.hasOrder(order)) {
            throw new IndexOutOfBoundsException("no such order");
        }
        return mill.warpAt(order);
    }

    public int left(int warp) throws IndexOutOfBoundsException {
        if (!mill.hasWarp(warp)) {
            throw new IndexOutOfBoundsException("no such warp");
        }
        return mill.restAt(warp);
    }

    public int cut() {
        int wasted = mill.takeDown();
        waste += wasted;
        return wasted;
    }

    public int getWaste() {
        return waste;
    }

    public int addCopy(int sett) throws IndexOutOfBoundsException, IllegalStateException {
        Sett found = settAt(sett);
        if (copies.size() >= COPY_LIMIT) {
            throw new IllegalStateException("no room for a copy");
        }
        copies.add(new Copy(found.number, found.told));
        return copies.size() - 1;
    }

    public int miscopy(int copy, int stripe, int count)
            throws IndexOutOfBoundsException, IllegalArgumentException, NoSuchElementException {
        Copy found = copyAt(copy);
        requireWithin(count, 1, COUNT_MOST);
        if (!found.has(stripe)) {
            throw new NoSuchElementException("no such stripe");
        }
        found.put(stripe, count);
        return found.countErrors();
    }

    public int parentOf(int copy) throws IndexOutOfBoundsException {
        return likelyParent(copyAt(copy), copy);
    }

    public int depth(int copy) throws IndexOutOfBoundsException {
        int parent = likelyParent(copyAt(copy), copy);
        int parents = 1;
        while (parent >= 0 && parent < copies.size() && parents <= COPY_LIMIT) {
            parent = likelyParent(copies.get(parent), parent);
            parents++;
        }
        return parents;
    }

    public boolean fits(int sett) throws IndexOutOfBoundsException, UnsupportedOperationException {
        Row round = settAt(sett).round;
        requireScrap();
        return row.isScrapOf(round);
    }

    public int countFits() throws UnsupportedOperationException {
        requireScrap();
        int fitting = 0;
        for (int i = 0; i < setts.size(); i++) {
            if (row.isScrapOf(setts.get(i).round)) {
                fitting++;
            }
        }
        return fitting;
    }

    public long checksum() {
        long sum = 7;
        for (int i = 0; i < setts.size(); i++) {
            Sett each = setts.get(i);
            sum = 31 * sum + each.threads;
            sum = 31 * sum + each.form.shadeAt(0);
            sum = 31 * sum + each.form.countAt(0);
        }
        return 31 * sum + waste;
    }

    public float contestedShare() throws ArithmeticException {
        if (registered == 0) {
            throw new ArithmeticException("no sett is registered");
        }
        int contested = 0;
        for (int i = 0; i < setts.size(); i++) {
            Sett each = setts.get(i);
            if (each.isRegistered && foremostRival(each) != null) {
                contested++;
            }
        }
        return (float) contested / (float) registered;
    }

    public double meanThreads() throws ArithmeticException {
        if (setts.isEmpty()) {
            throw new ArithmeticException("there is no sett");
        }
        int sum = 0;
        for (int i = 0; i < setts.size(); i++) {
            sum += setts.get(i).threads;
        }
        return (double) sum / (double) setts.size();
    }

    public boolean isSound() {
        return areRoundsSound() && doFormsTellLikeness() && areWarpsSound() && areParentsSound();
    }

    private static boolean isWithin(int value, int least, int most) {
        return value >= least && value <= most;
    }

    private static void requireWithin(int value, int least, int most) {
        if (!isWithin(value, least, most)) {
            throw new IllegalArgumentException("a number is out of range");
        }
    }

    private static void requirePart(int part) {
        if (!isWithin(part, 0, Palette.PARTS - 1)) {
            throw new IllegalArgumentException("no such part");
        }
    }

    private static void requireStripe(Row stripes, int index) {
        if (!stripes.has(index)) {
            throw new NoSuchElementException("no such stripe");
        }
    }

    private static void requirePleat(Sett sett, boolean isSett, int stripe, int seen, int pleat) {
        requireWithin(seen, 1, SEEN_MOST);
        requireWithin(pleat, 0, PLEAT_MOST);
        if (!isSett) {
            requireStripe(sett.round, stripe);
        }
    }

    private void requireShade(int shade) {
        if (!palette.has(shade)) {
            throw new IndexOutOfBoundsException("no such shade");
        }
    }

    private void requireRoomForSett() {
        if (setts.size() >= SETT_LIMIT) {
            throw new IllegalStateException("no room for a sett");
        }
    }

    private void requireScrap() {
        if (row.size == 0) {
            throw new UnsupportedOperationException("the row has no stripes");
        }
    }

    private Sett settAt(int sett) {
        if (sett < 0 || sett >= setts.size()) {
            throw new IndexOutOfBoundsException("no such sett");
        }
        return setts.get(sett);
    }

    private Sett registeredAt(int sett) {
        Sett found = settAt(sett);
        if (!found.isRegistered) {
            throw new UnsupportedOperationException("it is not registered");
        }
        return found;
    }

    private Copy copyAt(int copy) {
        if (copy < 0 || copy >= copies.size()) {
            throw new IndexOutOfBoundsException("no such copy");
        }
        return copies.get(copy);
    }

    private static int quotient(int dividend, int divisor) {
        return divisor == 0 ? 0 : dividend / divisor;
    }

    private static int rest(int dividend, int divisor) {
        return divisor == 0 ? 0 : Math.floorMod(dividend, divisor);
    }

    private int keepSett(Row told, boolean isMirrored) {
        int number = setts.size();
        setts.add(new Sett(number, told, isMirrored));
        return number;
    }

    private static int threadsOver(Sett sett, int width, int perUnit) {
        requireWithin(width, 1, CLOTH_MOST);
        requireWithin(perUnit, 1, CLOTH_MOST);
        return rest(width * perUnit, sett.threads);
    }

    /** Neither setts nor shades ever change, so a distance that was found once is kept. */
    private int distanceBetween(Sett first, Sett second) {
        int known = first.keptDistance(second.number);
        if (known != NONE) {
            return known;
        }
        int least = Integer.MAX_VALUE;
        for (int begin = 0; begin < second.round.size; begin++) {
            least = turnDistance(first, second, begin, 1, least);
            least = turnDistance(first, second, begin, -1, least);
        }
        first.keepDistance(second.number, least);
        return least;
    }

    /** The sum of one turn, or the bound if that is less: a sum never falls, so it is left where it gets there. */
    private int turnDistance(Sett first, Sett second, int begin, int step, int bound) {
        int sum = 0;
        int here = 0;
        int there = begin;
        for (int i = 0; i < STRIPES_COMPARED && sum < bound; i++) {
            sum += palette.apart(first.round.shadeAt(here), second.round.shadeAt(there));
            sum += Math.abs(first.percentAt(here) - second.percentAt(there));
            here = first.round.nextTo(here, 1);
            there = second.round.nextTo(there, step);
        }
        return Math.min(sum, bound);
    }

    private static boolean goesAhead(Sett sett, Sett other) {
        return sett.proof < other.proof || sett.proof == other.proof && sett.number < other.number;
    }

    private boolean contests(Sett rival, Sett sett) {
        if (!rival.isRegistered || rival.isWithdrawn || !goesAhead(rival, sett)) {
            return false;
        }
        int apart = rival.number < sett.number ? distanceBetween(rival, sett) : distanceBetween(sett, rival);
        return apart < ruling;
    }

    /** Answers null if nothing contests the sett. */
    private Sett foremostRival(Sett sett) {
        Sett foremost = null;
        for (int i = 0; i < setts.size(); i++) {
            Sett each = setts.get(i);
            if (contests(each, sett) && (foremost == null || goesAhead(each, foremost))) {
                foremost = each;
            }
        }
        return foremost;
    }

    /** Answers null if no sett that is alike is registered. */
    private Sett foremostAlike(Sett sett) {
        Sett foremost = null;
        for (int i = 0; i < setts.size(); i++) {
            Sett each = setts.get(i);
            boolean isAhead = each.isRegistered && (foremost == null || goesAhead(each, foremost));
            if (isAhead && each.round.isTurnOf(sett.round)) {
                foremost = each;
            }
        }
        return foremost;
    }

    private boolean isAllowed(Sett sett, int applicant) {
        Sett right = foremostAlike(sett);
        if (right == null || right.owner == applicant) {
            return true;
        }
        if (right.kind == 'f' || right.kind == 'p') {
            return false;
        }
        if (right.kind == 'c' && !right.hasConsent(applicant)) {
            return false;
        }
        return !right.isWithdrawn && foremostRival(right) == null;
    }

    private int firstWarpFor(Sett sett, int length) {
        for (int i = 0; i < mill.warpCount; i++) {
            int strung = mill.settAt(i);
            boolean isKnown = strung >= 0 && strung < setts.size();
            if (mill.restAt(i) >= length && isKnown && setts.get(strung).round.isTurnOf(sett.round)) {
                return i;
            }
        }
        return NONE;
    }

    private int likelyParent(Copy copy, int number) {
        int parent = NONE;
        int best = 0;
        for (int i = 0; i < number && i < copies.size(); i++) {
            Copy each = copies.get(i);
            int kinship = each.sett == copy.sett ? each.kinshipTo(copy) : 0;
            if (kinship > best) {
                best = kinship;
                parent = i;
            }
        }
        return parent;
    }

    private boolean areRoundsSound() {
        for (int i = 0; i < setts.size(); i++) {
            Sett each = setts.get(i);
            if (!each.form.isTurnOf(each.round) || each.round.hasTwins()) {
                return false;
            }
        }
        return true;
    }

    private boolean doFormsTellLikeness() {
        for (int i = 0; i < setts.size(); i++) {
            Sett sett = setts.get(i);
            for (int j = 0; j < i; j++) {
                Sett other = setts.get(j);
                boolean isFormLike = sett.form.equalsTurn(other.form, 0, 1);
                if (isFormLike != sett.round.isTurnOf(other.round)) {
                    return false;
                }
            }
        }
        return true;
    }

    private boolean areWarpsSound() {
        for (int i = 0; i < mill.warpCount; i++) {
            if (mill.restAt(i) < 0) {
                return false;
            }
        }
        return true;
    }

    private boolean areParentsSound() {
        for (int i = 0; i < copies.size(); i++) {
            if (likelyParent(copies.get(i), i) >= i) {
                return false;
            }
        }
        return true;
    }

    private static final class Palette {
        static final int PARTS = 3;
        private static final int LIMIT = 12;

        private final char[] letters = new char[LIMIT];
        private final int[] parts = new int[LIMIT * PARTS];
        private final int[] distances = new int[LIMIT * LIMIT];
        private int size = 0;

        boolean has(int shade) {
            return shade >= 0 && shade < size;
        }

        boolean hasLetter(char letter) {
            for (int i = 0; i < size && i < letters.length; i++) {
                if (letters[i] == letter) {
                    return true;
                }
            }
            return false;
        }

        boolean isFull() {
            return size >= LIMIT;
        }

        int put(char letter, int red, int green, int blue) {
            int shade = size;
            int first = shade * PARTS;
            if (shade < 0 || shade >= letters.length || first < 0 || first + 2 >= parts.length) {
                return NONE;
            }
            letters[shade] = letter;
            parts[first] = red;
            parts[first + 1] = green;
            parts[first + 2] = blue;
            size++;
            measure(shade);
            return shade;
        }

        /** Shades never change, so their distances are found once. */
        private void measure(int shade) {
            for (int other = 0; other < shade; other++) {
                int apart = partsApart(shade, other);
                keepDistance(shade, other, apart);
                keepDistance(other, shade, apart);
            }
        }

        private void keepDistance(int shade, int other, int apart) {
            int place = shade * LIMIT + other;
            if (place >= 0 && place < distances.length) {
                distances[place] = apart;
            }
        }

        int partAt(int shade, int part) {
            int place = shade * PARTS + part;
            return place >= 0 && place < parts.length ? parts[place] : 0;
        }

        int apart(int shade, int other) {
            int place = shade * LIMIT + other;
            return place >= 0 && place < distances.length ? distances[place] : 0;
        }

        private int partsApart(int shade, int other) {
            int sum = 0;
            for (int part = 0; part < PARTS; part++) {
                sum += Math.abs(partAt(shade, part) - partAt(other, part));
            }
            return sum;
        }
    }

    private static final class Row {
        private final int[] shades;
        private final int[] counts;
        private int size = 0;

        Row(int limit) {
            int room = Math.max(limit, 0);
            shades = new int[room];
            counts = new int[room];
        }

        boolean has(int index) {
            return index >= 0 && index < size;
        }

        boolean isFull() {
            return size >= shades.length;
        }

        void put(int shade, int count) {
            if (size >= 0 && size < shades.length && size < counts.length) {
                shades[size] = shade;
                counts[size] = count;
                size++;
            }
        }

        void clear() {
            size = 0;
        }

        int shadeAt(int index) {
            return index >= 0 && index < shades.length ? shades[index] : 0;
        }

        int countAt(int index) {
            return index >= 0 && index < counts.length ? counts[index] : 0;
        }

        Row copied() {
            Row copy = new Row(size);
            for (int i = 0; i < size; i++) {
                copy.put(shadeAt(i), countAt(i));
            }
            return copy;
        }

        boolean canBeSett(boolean isMirrored) {
            if (size < 2 || !isMirrored && shadeAt(0) == shadeAt(size - 1)) {
                return false;
            }
            for (int i = 0; i < size; i++) {
                if (countAt(i) % 2 != 0 || i > 0 && shadeAt(i) == shadeAt(i - 1)) {
                    return false;
                }
            }
            return true;
        }

        Row roundOf(boolean isMirrored) {
            Row round = new Row(isMirrored ? 2 * size - 2 : size);
            for (int i = 0; i < size; i++) {
                round.put(shadeAt(i), countAt(i));
            }
            for (int i = size - 2; isMirrored && i > 0; i--) {
                round.put(shadeAt(i), countAt(i));
            }
            return round;
        }

        int countThreads() {
            int sum = 0;
            for (int i = 0; i < size; i++) {
                sum += countAt(i);
            }
            return sum;
        }

        int threadsOf(int shade) {
            int sum = 0;
            for (int i = 0; i < size; i++) {
                sum += shadeAt(i) == shade ? countAt(i) : 0;
            }
            return sum;
        }

        int firstThread(int stripe) {
            int sum = 0;
            for (int i = 0; i < stripe && i < size; i++) {
                sum += countAt(i);
            }
            return sum;
        }

        int placeInTurn(int begin, int step, int index) {
            return size == 0 ? 0 : Math.floorMod(begin + step * index, size);
        }

        int nextTo(int index, int step) {
            int next = index + step;
            if (next < 0) {
                return size - 1;
            }
            return next < size ? next : 0;
        }

        int compareTurns(int begin, int step, int otherBegin, int otherStep) {
            for (int i = 0; i < size; i++) {
                int here = placeInTurn(begin, step, i);
                int there = placeInTurn(otherBegin, otherStep, i);
                if (shadeAt(here) != shadeAt(there)) {
                    return shadeAt(here) - shadeAt(there);
                }
                if (countAt(here) != countAt(there)) {
                    return countAt(here) - countAt(there);
                }
            }
            return 0;
        }

        Row lowestTurn() {
            int lowestBegin = 0;
            int lowestStep = 1;
            for (int i = 0; i < 2 * size; i++) {
                int begin = i / 2;
                int step = i % 2 == 0 ? 1 : -1;
                if (compareTurns(begin, step, lowestBegin, lowestStep) < 0) {
                    lowestBegin = begin;
                    lowestStep = step;
                }
            }
            Row lowest = new Row(size);
            for (int i = 0; i < size; i++) {
                int place = placeInTurn(lowestBegin, lowestStep, i);
                lowest.put(shadeAt(place), countAt(place));
            }
            return lowest;
        }

        boolean equalsTurn(Row other, int begin, int step) {
            if (size != other.size) {
                return false;
            }
            for (int i = 0; i < size; i++) {
                int there = other.placeInTurn(begin, step, i);
                if (shadeAt(i) != other.shadeAt(there) || countAt(i) != other.countAt(there)) {
                    return false;
                }
            }
            return true;
        }

        boolean isTurnOf(Row other) {
            for (int begin = 0; begin < other.size; begin++) {
                if (equalsTurn(other, begin, 1) || equalsTurn(other, begin, -1)) {
                    return true;
                }
            }
            return false;
        }

        boolean hasTwins() {
            for (int i = 0; i < size; i++) {
                if (shadeAt(i) == shadeAt(placeInTurn(i, 1, 1))) {
                    return true;
                }
            }
            return false;
        }

        static int scaledCount(int count, int number, int divisor) {
            int pairs = quotient(count * number + divisor, 2 * divisor);
            return Math.max(2 * pairs, 2);
        }

        int greatestScaled(int number, int divisor) {
            int greatest = 0;
            for (int i = 0; i < size; i++) {
                greatest = Math.max(greatest, scaledCount(countAt(i), number, divisor));
            }
            return greatest;
        }

        int lossOfScaling(int number, int divisor) {
            int greatest = 0;
            for (int i = 0; i < size; i++) {
                int after = scaledCount(countAt(i), number, divisor);
                greatest = Math.max(greatest, Math.abs(after * divisor - countAt(i) * number));
            }
            return greatest;
        }

        Row scaled(int number, int divisor) {
            Row made = new Row(size);
            for (int i = 0; i < size; i++) {
                made.put(shadeAt(i), scaledCount(countAt(i), number, divisor));
            }
            return made;
        }

        boolean liesAt(Row round, int begin, int step) {
            for (int i = 0; i < size; i++) {
                int there = round.placeInTurn(begin, step, i);
                boolean isTorn = i == 0 || i == size - 1;
                boolean isLong = round.countAt(there) > countAt(i);
                boolean isExact = round.countAt(there) == countAt(i);
                if (shadeAt(i) != round.shadeAt(there) || !isExact && !(isTorn && isLong)) {
                    return false;
                }
            }
            return true;
        }

        boolean isScrapOf(Row round) {
            for (int begin = 0; begin < round.size; begin++) {
                if (liesAt(round, begin, 1) || liesAt(round, begin, -1)) {
                    return true;
                }
            }
            return false;
        }
    }

    /** A sett with its entry in the register, if it has one. */
    private static final class Sett {
        private final int number;
        private final Row told;
        private final boolean isMirrored;
        private final Row round;
        private final Row form;
        private final int threads;
        private final int[] percents;
        private final int[] distances = new int[SETT_LIMIT];
        private boolean isRegistered = false;
        private boolean isWithdrawn = false;
        private char kind = 'n';
        private int owner = 0;
        private int proof = 0;
        private int consents = 0;

        Sett(int number, Row told, boolean isMirrored) {
            this.number = number;
            this.told = told;
            this.isMirrored = isMirrored;
            round = told.roundOf(isMirrored);
            form = round.lowestTurn();
            threads = round.countThreads();
            percents = new int[Math.max(round.size, 0)];
            for (int i = 0; i < percents.length; i++) {
                percents[i] = quotient(100 * round.countAt(i), threads);
            }
        }

        int percentAt(int stripe) {
            return stripe >= 0 && stripe < percents.length ? percents[stripe] : 0;
        }

        int threadShade(int thread) {
            int place = rest(thread, threads);
            int begin = 0;
            for (int i = 0; i < round.size; i++) {
                begin += round.countAt(i);
                if (place < begin) {
                    return round.shadeAt(i);
                }
            }
            return NONE;
        }

        /** Below 0 if a pleat to a stripe begins ahead of the round's first thread. */
        int pleatBegin(boolean isSett, int stripe, int seen, int pleat) {
            if (isSett) {
                return pleat * seen;
            }
            return round.firstThread(stripe) + round.countAt(stripe) / 2 - seen / 2;
        }

        boolean hasConsent(int applicant) {
            return (consents >> applicant & 1) == 1;
        }

        /** Distances are kept one greater, so that the 0 of a new array says that none is kept. */
        int keptDistance(int other) {
            return other >= 0 && other < distances.length ? distances[other] - 1 : NONE;
        }

        void keepDistance(int other, int apart) {
            if (other >= 0 && other < distances.length) {
                distances[other] = apart + 1;
            }
        }
    }

    /** The warps and the orders that are put on them. */
    private static final class Mill {
        private static final int WARP_LIMIT = 10;
        private static final int ORDER_LIMIT = 20;
        private static final int WARP_LENGTH = 60;

        private final int[] warpSetts = new int[WARP_LIMIT];
        private final int[] warpRests = new int[WARP_LIMIT];
        private final int[] orderWarps = new int[ORDER_LIMIT];
        private int warpCount = 0;
        private int orderCount = 0;

        boolean hasWarp(int warp) {
            return warp >= 0 && warp < warpCount;
        }

        boolean hasOrder(int order) {
            return order >= 0 && order < orderCount;
        }

        boolean isFull() {
            return warpCount >= WARP_LIMIT;
        }

        boolean isBooked() {
            return orderCount >= ORDER_LIMIT;
        }

        int settAt(int warp) {
            return warp >= 0 && warp < warpSetts.length ? warpSetts[warp] : NONE;
        }

        int restAt(int warp) {
            return warp >= 0 && warp < warpRests.length ? warpRests[warp] : 0;
        }

        int warpAt(int order) {
            return order >= 0 && order < orderWarps.length ? orderWarps[order] : NONE;
        }

        int putUp(int sett, int length) {
            int warp = warpCount;
            if (warp < 0 || warp >= warpSetts.length || warp >= warpRests.length) {
                return NONE;
            }
            warpSetts[warp] = sett;
            warpRests[warp] = Math.max(WARP_LENGTH, length);
            warpCount++;
            return warp;
        }

        int takeDown() {
            int sum = 0;
            for (int i = 0; i < warpCount; i++) {
                sum += restAt(i);
            }
            warpCount = 0;
            orderCount = 0;
            return sum;
        }

        int put(int warp, int length) {
            int order = orderCount;
            if (warp < 0 || warp >= warpRests.length || order < 0 || order >= orderWarps.length) {
                return NONE;
            }
            warpRests[warp] -= length;
            orderWarps[order] = warp;
            orderCount++;
            return order;
        }
    }

    /** A copy of the stripes of a sett as they were told, of which the counts may go wrong. */
    private static final class Copy {
        private final int sett;
        private final Row told;
        private final int[] counts;

        Copy(int sett, Row told) {
            this.sett = sett;
            this.told = told;
            counts = new int[Math.max(told.size, 0)];
            for (int i = 0; i < counts.length; i++) {
                counts[i] = told.countAt(i);
            }
        }

        boolean has(int stripe) {
            return stripe >= 0 && stripe < counts.length;
        }

        void put(int stripe, int count) {
            if (has(stripe)) {
                counts[stripe] = count;
            }
        }

        int countAt(int stripe) {
            return has(stripe) ? counts[stripe] : 0;
        }

        boolean isError(int stripe) {
            return countAt(stripe) != told.countAt(stripe);
        }

        int countErrors() {
            int errors = 0;
            for (int i = 0; i < counts.length; i++) {
                errors += isError(i) ? 1 : 0;
            }
            return errors;
        }

        int kinshipTo(Copy child) {
            int kinship = 0;
            for (int i = 0; i < counts.length; i++) {
                if (isError(i)) {
                    kinship += countAt(i) == child.countAt(i) ? 1 : -1;
                }
            }
            return kinship;
        }
    }
}
