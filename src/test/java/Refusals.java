import java.util.List;
import java.util.function.Supplier;

/** Calls that a book refuses: what they throw, and that the book answers after them as if they had not been. */
final class Refusals {
    interface Ask {
        Object of(Settbook book);
    }

    interface AskNumber {
        Object of(Settbook book, int number);
    }

    private final Due due;
    private final Supplier<Settbook> maker;
    private final List<String> before;

    Refusals(Due due, Supplier<Settbook> maker) {
        this.due = due;
        this.maker = maker;
        before = Snapshot.of(maker);
    }

    void refuse(String name, Class<?> want, Ask ask) {
        due.is(name, want, () -> ask.of(maker.get()));
        due.is(name + ", changes", "nothing", () -> Snapshot.difference(before, Snapshot.of(() -> refused(ask))));
    }

    private Settbook refused(Ask ask) {
        Settbook book = maker.get();
        Due.answer(() -> ask.of(book));
        return book;
    }

    /** The least and the greatest number are not refused so, those beside them and the farthest ones are. */
    void edges(String name, Class<?> want, int least, int most, AskNumber ask) {
        for (int number : new int[] {least, most}) {
            due.is(name + " " + number + " is out", false, () -> want.equals(answer(ask, number)));
        }
        for (int number : new int[] {least - 1, most + 1, Integer.MIN_VALUE, Integer.MAX_VALUE}) {
            refuse(name + " " + number, want, book -> ask.of(book, number));
        }
    }

    private Object answer(AskNumber ask, int number) {
        return Due.answer(() -> ask.of(maker.get(), number));
    }
}
