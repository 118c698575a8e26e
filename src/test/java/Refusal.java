import java.util.function.Predicate;
import java.util.function.Supplier;
import java.util.function.ToIntFunction;

/**
 * A call that is refused: its answer is the one that is due, and nothing that can be asked changes,
 * neither at once nor after the power has failed and the shelf is mounted.
 */
final class Refusal {
    private Refusal() {
    }

    static void isNone(Check c, String call, Supplier<ZoneShelf> shelf, ToIntFunction<ZoneShelf> refused) {
        answers(c, call, shelf, refused, ZoneShelf.NONE);
    }

    static void isFalse(Check c, String call, Supplier<ZoneShelf> shelf, Predicate<ZoneShelf> refused) {
        answers(c, call, shelf, x -> refused.test(x) ? 1 : 0, 0);
    }

    static void answers(Check c, String call, Supplier<ZoneShelf> shelf, ToIntFunction<ZoneShelf> refused, int due) {
        ZoneShelf x = shelf.get();
        c.due(call, refused.applyAsInt(x), due);
        changesNothing(c, call, shelf, refused);
    }

    /** Two shelves for each picture, as two pictures of one full shelf would be more than 512 calls. */
    static void changesNothing(Check c, String call, Supplier<ZoneShelf> shelf, ToIntFunction<ZoneShelf> refused) {
        ZoneShelf x = shelf.get();
        refused.applyAsInt(x);
        c.due("all that can be asked after " + call, Picture.of(x), Picture.of(shelf.get()));
        ZoneShelf y = shelf.get();
        refused.applyAsInt(y);
        c.due("all after " + call + " and a mount", mounted(y), mounted(shelf.get()));
    }

    private static String mounted(ZoneShelf x) {
        x.cut();
        x.mount();
        return Picture.of(x);
    }
}
