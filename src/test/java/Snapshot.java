import java.util.ArrayList;
import java.util.List;
import java.util.function.Supplier;

/** All that a book answers, each page asked of a book of its own, as one is good for 512 calls alone. */
final class Snapshot {
    private final Supplier<Settbook> maker;
    private final List<String> answers = new ArrayList<>();
    private Settbook book;

    private Snapshot(Supplier<Settbook> maker) {
        this.maker = maker;
    }

    static List<String> of(Supplier<Settbook> maker) {
        Snapshot snapshot = new Snapshot(maker);
        for (int sett = 0; sett <= 20; sett++) {
            snapshot.sett(sett);
        }
        snapshot.shades();
        snapshot.mill();
        snapshot.copies();
        snapshot.sums();
        snapshot.row();
        snapshot.register();
        snapshot.consents();
        snapshot.nextOnes();
        return snapshot.answers;
    }

    /** The first answer of the one that the other one has not, or "nothing". */
    static String difference(List<String> before, List<String> after) {
        for (int i = 0; i < before.size(); i++) {
            if (!before.get(i).equals(after.get(i))) {
                return before.get(i) + ", then " + after.get(i);
            }
        }
        return "nothing";
    }

    private void turnPage() {
        book = maker.get();
    }

    private Object ask(String name, Due.Call call) {
        Object answer = Due.answer(call);
        answers.add(name + " = " + answer);
        return answer;
    }

    private void sett(int sett) {
        turnPage();
        ask("getThreads " + sett, () -> book.getThreads(sett));
        stripes(sett);
        ask("lowestAlike " + sett, () -> book.lowestAlike(sett));
        ask("rightOf " + sett, () -> book.rightOf(sett));
        ask("isContested " + sett, () -> book.isContested(sett));
        ask("contestedBy " + sett, () -> book.contestedBy(sett));
        ask("fits " + sett, () -> book.fits(sett));
        ask("meanPart " + sett, () -> book.meanPart(sett, 0));
        for (int i = 0; i < 20; i++) {
            int other = i;
            ask("distance " + sett + " " + i, () -> book.distance(sett, other));
            ask("isAlike " + sett + " " + i, () -> book.isAlike(sett, other));
            ask("mayWeave " + sett + " " + i, () -> book.mayWeave(sett, other));
        }
    }

    private void stripes(int sett) {
        Object size = ask("countStripes " + sett, () -> book.countStripes(sett));
        int stripes = size instanceof Integer ? (Integer) size : 0;
        for (int i = 0; i <= stripes; i++) {
            int index = i;
            ask("getShade " + sett + " " + i, () -> book.getShade(sett, index));
            ask("getCount " + sett + " " + i, () -> book.getCount(sett, index));
            ask("formShade " + sett + " " + i, () -> book.formShade(sett, index));
            ask("formCount " + sett + " " + i, () -> book.formCount(sett, index));
        }
    }

    private void shades() {
        turnPage();
        for (int i = 0; i <= 12; i++) {
            int shade = i;
            for (int part = 0; part < 3; part++) {
                int which = part;
                ask("getPart " + shade + " " + part, () -> book.getPart(shade, 'm', which));
            }
            ask("shadeDistance " + shade, () -> book.shadeDistance(0, shade));
        }
        for (char letter = 'A'; letter <= 'Z'; letter++) {
            char which = letter;
            ask("addShade " + letter, () -> book.addShade(which, 1, 2, 3));
        }
    }

    private void mill() {
        turnPage();
        for (int i = 0; i <= 20; i++) {
            int number = i;
            ask("warpOf " + i, () -> book.warpOf(number));
            ask("left " + i, () -> book.left(number));
        }
        ask("getWaste", () -> book.getWaste());
        for (int i = 0; i <= 20; i++) {
            int sett = i;
            ask("order " + i, () -> book.order(sett, 1, 3));
        }
        ask("cut", () -> book.cut());
        ask("getWaste after it", () -> book.getWaste());
    }

    private void copies() {
        turnPage();
        for (int i = 0; i <= 16; i++) {
            int copy = i;
            ask("parentOf " + i, () -> book.parentOf(copy));
            ask("depth " + i, () -> book.depth(copy));
            for (int stripe = 0; stripe < 16; stripe++) {
                int where = stripe;
                ask("miscopy " + copy + " " + stripe, () -> book.miscopy(copy, where, 1));
            }
        }
    }

    private void sums() {
        turnPage();
        ask("getLoss", () -> book.getLoss());
        ask("countFits", () -> book.countFits());
        ask("checksum", () -> book.checksum());
        ask("contestedShare", () -> book.contestedShare());
        ask("meanThreads", () -> book.meanThreads());
        ask("isSound", () -> book.isSound());
        ask("setRuling", () -> book.setRuling(9999));
        ask("contestedShare by another ruling", () -> book.contestedShare());
    }

    private void row() {
        turnPage();
        Object made = ask("makeSett", () -> book.makeSett(true));
        if (made instanceof Integer) {
            stripes((Integer) made);
        }
        ask("clearStripes", () -> book.clearStripes());
    }

    private void register() {
        turnPage();
        for (int i = 0; i <= 20; i++) {
            int sett = i;
            ask("withdraw " + i, () -> book.withdraw(sett));
        }
        for (int i = 0; i <= 20; i++) {
            int sett = i;
            ask("register " + i, () -> book.register(sett, 'n', 0, 1600));
        }
    }

    private void consents() {
        turnPage();
        for (int i = 0; i < 200; i++) {
            int sett = i / 10;
            int applicant = i % 10;
            ask("consent " + sett + " " + applicant, () -> book.consent(sett, applicant));
        }
    }

    private void nextOnes() {
        turnPage();
        ask("addStripe", () -> book.addStripe(0, 2));
        ask("addCopy", () -> book.addCopy(0));
        ask("scale", () -> book.scale(1, 1, 1));
        ask("getLoss after it", () -> book.getLoss());
    }
}
