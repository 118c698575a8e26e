import java.util.LinkedHashMap;
import java.util.Map;
import java.util.function.Supplier;
import java.util.function.ToIntFunction;

/** Promise 2: "or the shelf is DOWN (as with all calls below, which then answer NONE, 0 or false)". */
public final class DownTest {
    private static final int NONE = -1;

    public static void main(String[] args) {
        Check.runAll(DownTest.class);
    }

    /** Calls that would be answered otherwise if the shelf were UP. */
    private static Map<String, ToIntFunction<ZoneShelf>> callsThatAnswer0() {
        Map<String, ToIntFunction<ZoneShelf>> calls = new LinkedHashMap<>();
        calls.put("3: append(1, 9)", x -> x.append(1, 9) ? 1 : 0);
        calls.put("4: appendRow(1, 9, 2)", x -> x.appendRow(1, 9, 2) ? 1 : 0);
        calls.put("5: open(1, true)", x -> x.open(1, true) ? 1 : 0);
        calls.put("5: open(1, false)", x -> x.open(1, false) ? 1 : 0);
        calls.put("6: remove(1)", x -> x.remove(1) ? 1 : 0);
        calls.put("7: rename(1, 7)", x -> x.rename(1, 7) ? 1 : 0);
        calls.put("8: sync()", x -> x.sync() ? 1 : 0);
        calls.put("9: tear()", x -> x.tear() ? 1 : 0);
        calls.put("10: cut()", x -> x.cut() ? 1 : 0);
        calls.put("12: tidy()", x -> x.tidy() ? 1 : 0);
        calls.put("13: isUp()", x -> x.isUp() ? 1 : 0);
        calls.put("14: objects()", ZoneShelf::objects);
        calls.put("15: room()", ZoneShelf::room);
        calls.put("17: word(1, 0)", x -> x.word(1, 0));
        calls.put("17: word(1, 1)", x -> x.word(1, 1));
        return calls;
    }

    private static Map<String, ToIntFunction<ZoneShelf>> callsThatAnswerNone() {
        Map<String, ToIntFunction<ZoneShelf>> calls = new LinkedHashMap<>();
        calls.put("2: create(7, 0)", x -> x.create(7, 0));
        for (int what = 0; what < 4; what++) {
            int of = what;
            calls.put("16: object(1, " + what + ")", x -> x.object(1, of));
        }
        calls.put("18: find(101)", x -> x.find(101));
        calls.put("18: find(100)", x -> x.find(100));
        calls.put("19: list(0)", x -> x.list(0));
        calls.put("19: list(1)", x -> x.list(1));
        return calls;
    }

    /** Each shelf fails once by a cut and once by a tear. */
    private static Map<String, Supplier<ZoneShelf>> shelvesThatAreDown() {
        Map<String, Supplier<ZoneShelf>> shelves = new LinkedHashMap<>();
        addDown(shelves, "synced", DownTest::synced);
        addDown(shelves, "changed since the sync", () -> Shelves.withRow(5));
        addDown(shelves, "never synced", DownTest::neverSynced);
        addDown(shelves, "empty", ZoneShelf::new);
        addDown(shelves, "full", Shelves::full);
        addDown(shelves, "emptied", Shelves::emptied);
        return shelves;
    }

    private static void addDown(Map<String, Supplier<ZoneShelf>> shelves, String about, Supplier<ZoneShelf> up) {
        shelves.put(about + ", cut", () -> {
            ZoneShelf x = up.get();
            x.cut();
            return x;
        });
        shelves.put(about + ", torn", () -> {
            ZoneShelf x = up.get();
            x.tear();
            return x;
        });
    }

    private static ZoneShelf neverSynced() {
        ZoneShelf x = new ZoneShelf();
        x.create(100, 1);
        x.create(101, 2);
        x.appendRow(1, 70, 3);
        return x;
    }

    private static ZoneShelf synced() {
        ZoneShelf x = neverSynced();
        x.sync();
        return x;
    }

    static void eachCallOnADownShelf() {
        callsThatAnswer0().forEach((call, f) -> isRefusedDown(call, f, 0));
        callsThatAnswerNone().forEach((call, f) -> isRefusedDown(call, f, NONE));
    }

    private static void isRefusedDown(String call, ToIntFunction<ZoneShelf> f, int due) {
        shelvesThatAreDown().forEach((about, shelf) ->
            Refusal.answers(new Check("DOWN, " + about), call, shelf, f, due));
    }

    static void mountOnADownShelf() {
        shelvesThatAreDown().forEach((about, shelf) -> {
            Check c = new Check("DOWN, " + about);
            ZoneShelf x = shelf.get();
            c.due("11: mount()", x.mount(), true);
            c.due("13: isUp()", x.isUp(), true);
        });
    }

    /** With DOWN alone as the ground: the same calls are not refused once the shelf is mounted. */
    static void theSameCallsMounted() {
        Check c = new Check("not DOWN any more");
        callsThatAnswer0().forEach((call, f) -> {
            ZoneShelf x = synced();
            x.cut();
            x.mount();
            c.due(call + " is 0", f.applyAsInt(x) == 0, false);
        });
        callsThatAnswerNone().forEach((call, f) -> {
            ZoneShelf x = synced();
            x.tear();
            x.mount();
            c.due(call + " is NONE", f.applyAsInt(x) == NONE, false);
        });
    }

    static void allCallsOneAfterTheOther() {
        shelvesThatAreDown().forEach((about, shelf) -> {
            Check c = new Check("DOWN, all calls, " + about);
            ZoneShelf x = shelf.get();
            callsThatAnswer0().forEach((call, f) -> c.due(call, f.applyAsInt(x), 0));
            callsThatAnswerNone().forEach((call, f) -> c.due(call, f.applyAsInt(x), NONE));
            ZoneShelf untouched = shelf.get();
            x.mount();
            untouched.mount();
            c.due("all after the mount", Picture.of(x), Picture.of(untouched));
        });
    }
}
