import java.util.LinkedHashMap;
import java.util.Map;
import java.util.function.Predicate;
import java.util.function.Supplier;

/**
 * Every call with every pair of arguments at and about all limits, on shelves in every kind of
 * state: none throws (LANGUAGE.md, rule 7), and neither a refused call nor a question changes what
 * can be asked, at once or after a mount.
 */
public final class WildArgumentsTest {
    private static final int MIN = Integer.MIN_VALUE;
    private static final int MAX = Integer.MAX_VALUE;
    private static final int[] WILD = {
        MIN, MIN + 1, -201, -65, -64, -24, -1, 0, 1, 3, 4, 5, 8, 9, 23, 24, 25, 63, 64, 65,
        100, 123, 124, 200, 201, 9999, 10000, MAX - 1, MAX,
    };

    /** A shelf with its pictures, made once for all the calls that are compared with them. */
    private record Before(String about, Supplier<ZoneShelf> shelf, String now, String mounted) {
        static Before of(String about, Supplier<ZoneShelf> shelf) {
            return new Before(about, shelf, Picture.of(shelf.get()), mount(shelf.get()));
        }

        static String mount(ZoneShelf x) {
            x.cut();
            x.mount();
            return Picture.of(x);
        }
    }

    public static void main(String[] args) {
        Check.runAll(WildArgumentsTest.class);
    }

    static void onShelvesThatAreUp() {
        tryAllCalls(Before.of("new", ZoneShelf::new));
        tryAllCalls(Before.of("emptied", Shelves::emptied));
        tryAllCalls(Before.of("single", Shelves::single));
        tryAllCalls(Before.of("closed", Shelves::closed));
        tryAllCalls(Before.of("63 words in a row", () -> Shelves.withRow(63)));
        tryAllCalls(Before.of("64 words in a row", () -> Shelves.withRow(64)));
        tryAllCalls(Before.of("199 words", () -> Shelves.withWordsInAll(199)));
        tryAllCalls(Before.of("200 words", () -> Shelves.withWordsInAll(200)));
        tryAllCalls(Before.of("24 objects", () -> Shelves.numbered(24)));
        tryAllCalls(Before.of("full", Shelves::full));
    }

    static void onShelvesThatAreDown() {
        tryAllCalls(Before.of("cut", () -> {
            ZoneShelf x = Shelves.withRow(5);
            x.cut();
            return x;
        }));
        tryAllCalls(Before.of("torn", () -> {
            ZoneShelf x = Shelves.full();
            x.tear();
            return x;
        }));
    }

    private static void tryAllCalls(Before before) {
        Check c = new Check("wild arguments, " + before.about());
        for (int a : WILD) {
            for (int b : WILD) {
                callsWith(a, b).forEach((call, isDone) -> tryCall(c, before, call, isDone));
            }
        }
    }

    private static Map<String, Predicate<ZoneShelf>> callsWith(int a, int b) {
        Map<String, Predicate<ZoneShelf>> calls = new LinkedHashMap<>();
        String both = "(" + a + ", " + b + ")";
        calls.put("create" + both, x -> x.create(a, b) != ZoneShelf.NONE);
        calls.put("append" + both, x -> x.append(a, b));
        calls.put("appendRow(" + a + ", 7, " + b + ")", x -> x.appendRow(a, 7, b));
        calls.put("rename" + both, x -> x.rename(a, b));
        calls.put("object" + both, x -> asked(x.object(a, b)));
        calls.put("word" + both, x -> asked(x.word(a, b)));
        if (b == 0) {
            calls.put("open(" + a + ", true)", x -> x.open(a, true));
            calls.put("open(" + a + ", false)", x -> x.open(a, false));
            calls.put("remove(" + a + ")", x -> x.remove(a));
            calls.put("find(" + a + ")", x -> asked(x.find(a)));
            calls.put("list(" + a + ")", x -> asked(x.list(a)));
        }
        return calls;
    }

    /** A question does nothing, whatever it answers. */
    private static boolean asked(int answer) {
        return false;
    }

    private static void tryCall(Check c, Before before, String call, Predicate<ZoneShelf> isDone) {
        try {
            ZoneShelf x = before.shelf().get();
            if (isDone.test(x)) {
                return;
            }
            c.due("all that can be asked after " + call, Picture.of(x), before.now());
            ZoneShelf y = before.shelf().get();
            isDone.test(y);
            c.due("all after " + call + " and a mount", Before.mount(y), before.mounted());
        } catch (RuntimeException e) {
            c.due(call + " throws " + e, true, false);
        }
    }
}
