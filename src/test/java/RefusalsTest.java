/**
 * Each ground on which promises 2 to 7 refuse a call, alone: the call is refused and changes
 * nothing, and the nearest call without that ground is not refused. (DOWN is in DownTest.)
 */
public final class RefusalsTest {
    private static final int NONE = -1;
    private static final int MIN = Integer.MIN_VALUE;
    private static final int MAX = Integer.MAX_VALUE;
    /** Of a shelf with object 0 alone: the first that is not there, the last that could be, and none that can. */
    private static final int[] NOT_THERE = {-1, 1, 23, 24, MIN, MAX};
    private static final int[] NO_NUMBERS = {-1, 24, MIN, MAX};
    private static final int[] NO_NAMES = {-1, 10000, MIN, MAX};
    private static final int[] NO_HINTS = {-1, 4, MIN, MAX};

    public static void main(String[] args) {
        Check.runAll(RefusalsTest.class);
    }

    static void createWithNoSuchName() {
        Check c = new Check("2: NONE if there is no such name");
        for (int name : NO_NAMES) {
            Refusal.isNone(c, "create(" + name + ", 0), new", ZoneShelf::new, x -> x.create(name, 0));
            Refusal.isNone(c, "create(" + name + ", 0)", Shelves::single, x -> x.create(name, 0));
        }
        c.due("create(0, 0)", Shelves.single().create(0, 0), 1);
        c.due("create(9999, 0)", Shelves.single().create(9999, 0), 1);
    }

    static void createWithNoSuchHint() {
        Check c = new Check("2: NONE if there is no such hint");
        for (int hint : NO_HINTS) {
            Refusal.isNone(c, "create(7, " + hint + "), new", ZoneShelf::new, x -> x.create(7, hint));
            Refusal.isNone(c, "create(7, " + hint + ")", Shelves::single, x -> x.create(7, hint));
        }
        c.due("create(7, 0)", Shelves.single().create(7, 0), 1);
        c.due("create(7, 3)", Shelves.single().create(7, 3), 1);
    }

    static void createWithANameThatAnObjectHas() {
        Check c = new Check("2: NONE if an object has this name");
        for (int name = 100; name <= 122; name++) {
            int taken = name;
            Refusal.isNone(c, "create(" + name + ", 0)", () -> Shelves.numbered(23), x -> x.create(taken, 0));
        }
        c.due("create(99, 0)", Shelves.numbered(23).create(99, 0), 23);
        c.due("create(123, 0)", Shelves.numbered(23).create(123, 0), 23);
        Refusal.isNone(c, "create(5, 1), its object not OPEN", Shelves::closed, x -> x.create(5, 1));
        c.due("create(5, 1), its object removed", Shelves.emptied().create(5, 1), 0);
    }

    static void createWithANameAfterARename() {
        Check c = new Check("2: NONE if an object has this name, renamed");
        Refusal.isNone(c, "create(6, 0)", RefusalsTest::renamed, x -> x.create(6, 0));
        c.due("create(5, 0)", renamed().create(5, 0), 1);
    }

    private static ZoneShelf renamed() {
        ZoneShelf x = Shelves.single();
        x.rename(0, 6);
        return x;
    }

    static void createWhenThereAre24() {
        Check c = new Check("2: NONE if there are 24");
        Refusal.isNone(c, "create(7, 0), no words", () -> Shelves.numbered(24), x -> x.create(7, 0));
        Refusal.isNone(c, "create(7, 0), all words", Shelves::full, x -> x.create(7, 0));
        c.due("create(7, 0), there are 23", Shelves.numbered(23).create(7, 0), 23);
        for (int gone = 0; gone < 24; gone++) {
            ZoneShelf x = Shelves.full();
            x.remove(gone);
            c.due("create(7, 0), " + gone + " was removed", x.create(7, 0), gone);
            c.due("create(8, 0), there are 24 again", x.create(8, 0), NONE);
        }
    }

    static void createWhenThereAre200Words() {
        Check c = new Check("2: 200 words are no ground");
        ZoneShelf x = Shelves.withWordsInAll(200);
        c.due("create(7, 0)", x.create(7, 0), 5);
    }

    static void appendToNoSuchObject() {
        Check c = new Check("3: false if there is no such object");
        for (int object : NOT_THERE) {
            Refusal.isFalse(c, "append(" + object + ", 1)", Shelves::single, x -> x.append(object, 1));
        }
        for (int object : NO_NUMBERS) {
            Refusal.isFalse(c, "append(" + object + ", 1), there are 24", () -> Shelves.numbered(24), x -> x.append(object, 1));
        }
        Refusal.isFalse(c, "append(0, 1), new", ZoneShelf::new, x -> x.append(0, 1));
        Refusal.isFalse(c, "append(0, 1), removed", Shelves::emptied, x -> x.append(0, 1));
        c.due("append(0, 1)", Shelves.numbered(24).append(0, 1), true);
        c.due("append(23, 1)", Shelves.numbered(24).append(23, 1), true);
    }

    static void appendToOneThatIsNotOpen() {
        Check c = new Check("3: false if it isn't OPEN");
        Refusal.isFalse(c, "append(0, 1)", Shelves::closed, x -> x.append(0, 1));
        ZoneShelf x = Shelves.closed();
        x.create(6, 0);
        c.due("append(1, 1), another one is", x.append(1, 1), true);
        x.open(0, true);
        c.due("append(0, 1), OPEN again", x.append(0, 1), true);
    }

    static void appendToOneThatHas64() {
        Check c = new Check("3: false if it has 64");
        Refusal.isFalse(c, "append(0, 9)", () -> Shelves.withRow(64), x -> x.append(0, 9));
        ZoneShelf x = Shelves.withRow(63);
        c.due("append(0, 9), it has 63", x.append(0, 9), true);
        c.due("word(0, 63)", x.word(0, 63), 9);
        c.due("object(0, 2)", x.object(0, 2), 64);
        c.due("append(0, 9), it has 64", x.append(0, 9), false);
        c.due("append(1, 9), another one has 3", x.append(1, 9), true);
    }

    static void appendWhenThereAre200() {
        Check c = new Check("3: false if there are 200");
        Refusal.isFalse(c, "append(4, 9), it has none", () -> Shelves.withWordsInAll(200), x -> x.append(4, 9));
        Refusal.isFalse(c, "append(3, 9), it has 8", () -> Shelves.withWordsInAll(200), x -> x.append(3, 9));
        Refusal.isFalse(c, "append(1, 9), there are 24", Shelves::full, x -> x.append(1, 9));
        ZoneShelf x = Shelves.withWordsInAll(199);
        c.due("append(4, 9), there are 199", x.append(4, 9), true);
        c.due("append(4, 9), there are 200", x.append(4, 9), false);
        c.due("append(3, 9), there are 200", x.append(3, 9), false);
        x.remove(4);
        c.due("append(3, 9), there are 199 again", x.append(3, 9), true);
    }

    static void appendRowToNoSuchObject() {
        Check c = new Check("4: false, and none, if there is no such object");
        for (int object : NOT_THERE) {
            Refusal.isFalse(c, "appendRow(" + object + ", 1, 2)", Shelves::single, x -> x.appendRow(object, 1, 2));
        }
        for (int object : NO_NUMBERS) {
            Refusal.isFalse(c, "appendRow(" + object + ", 1, 2), there are 24", () -> Shelves.numbered(24),
                x -> x.appendRow(object, 1, 2));
        }
        Refusal.isFalse(c, "appendRow(0, 1, 1), new", ZoneShelf::new, x -> x.appendRow(0, 1, 1));
        Refusal.isFalse(c, "appendRow(0, 1, 2), removed", Shelves::emptied, x -> x.appendRow(0, 1, 2));
        c.due("appendRow(0, 1, 2)", Shelves.numbered(24).appendRow(0, 1, 2), true);
        c.due("appendRow(23, 1, 2)", Shelves.numbered(24).appendRow(23, 1, 2), true);
    }

    static void appendRowToOneThatIsNotOpen() {
        Check c = new Check("4: false, and none, if it isn't OPEN");
        Refusal.isFalse(c, "appendRow(0, 1, 1)", Shelves::closed, x -> x.appendRow(0, 1, 1));
        Refusal.isFalse(c, "appendRow(0, 1, 62)", Shelves::closed, x -> x.appendRow(0, 1, 62));
        ZoneShelf x = Shelves.closed();
        x.open(0, true);
        c.due("appendRow(0, 1, 62), OPEN again", x.appendRow(0, 1, 62), true);
    }

    static void appendRowOfFewerThan1() {
        Check c = new Check("4: false, and none, if they are fewer than 1");
        for (int many : new int[] {0, -1, -2, -3, -64, -200, MIN, MIN + 1}) {
            Refusal.isFalse(c, "appendRow(0, 1, " + many + ")", Shelves::single, x -> x.appendRow(0, 1, many));
        }
        Refusal.isFalse(c, "appendRow(0, 1, 0), it has 64", () -> Shelves.withRow(64), x -> x.appendRow(0, 1, 0));
        Refusal.isFalse(c, "appendRow(4, 1, 0), there are 200", () -> Shelves.withWordsInAll(200), x -> x.appendRow(4, 1, 0));
        ZoneShelf x = Shelves.single();
        c.due("appendRow(0, 1, 1)", x.appendRow(0, 1, 1), true);
        c.due("object(0, 2)", x.object(0, 2), 3);
    }

    static void appendRowWithoutRoomInTheObject() {
        Check c = new Check("4: false, and none, if there is no room for all: 64 an object");
        for (int length : new int[] {1, 2, 32, 62, 63, 64}) {
            int over = 65 - length;
            for (int many : new int[] {over, 64 + over, MAX - length, MAX - length + 1, MAX}) {
                Refusal.isFalse(c, "appendRow(0, 1, " + many + "), it has " + length, () -> Shelves.withRow(length),
                    x -> x.appendRow(0, 1, many));
            }
        }
        Refusal.isFalse(c, "appendRow(0, 1, 65), it has none", () -> Shelves.numbered(1), x -> x.appendRow(0, 1, 65));
        c.due("appendRow(0, 1, 64), it has none", Shelves.numbered(1).appendRow(0, 1, 64), true);
        for (int length : new int[] {1, 2, 32, 62, 63}) {
            ZoneShelf x = Shelves.withRow(length);
            int many = 64 - length;
            c.due("appendRow(0, 500, " + many + "), it has " + length, x.appendRow(0, 500, many), true);
            c.due("object(0, 2)", x.object(0, 2), 64);
            c.due("word(0, 63)", x.word(0, 63), 500 + many - 1);
            c.due("word(1, 0), its neighbour's", x.word(1, 0), 70);
        }
    }

    static void appendRowWithoutRoomInAll() {
        Check c = new Check("4: false, and none, if there is no room for all: 200 in all");
        for (int words = 193; words <= 200; words++) {
            int there = words;
            int over = 201 - words;
            for (int object = 3; object <= 4; object++) {
                int to = object;
                Refusal.isFalse(c, "appendRow(" + to + ", 1, " + over + "), there are " + there,
                    () -> Shelves.withWordsInAll(there), x -> x.appendRow(to, 1, over));
            }
            if (over > 1) {
                ZoneShelf x = Shelves.withWordsInAll(words);
                c.due("appendRow(4, 1, " + (over - 1) + "), there are " + words, x.appendRow(4, 1, over - 1), true);
                c.due("room()", x.room(), 0);
                c.due("object(4, 2)", x.object(4, 2), over - 1);
            }
        }
        Refusal.isFalse(c, "appendRow(1, 1, 1), all is full", Shelves::full, x -> x.appendRow(1, 1, 1));
    }

    static void openNoSuchObject() {
        Check c = new Check("5: false if there is none such");
        for (boolean on : new boolean[] {true, false}) {
            for (int object : NOT_THERE) {
                Refusal.isFalse(c, "open(" + object + ", " + on + ")", Shelves::single, x -> x.open(object, on));
            }
            for (int object : NO_NUMBERS) {
                Refusal.isFalse(c, "open(" + object + ", " + on + "), there are 24", Shelves::full, x -> x.open(object, on));
            }
            Refusal.isFalse(c, "open(0, " + on + "), new", ZoneShelf::new, x -> x.open(0, on));
            Refusal.isFalse(c, "open(0, " + on + "), removed", Shelves::emptied, x -> x.open(0, on));
            c.due("open(0, " + on + ")", Shelves.full().open(0, on), true);
            c.due("open(23, " + on + ")", Shelves.full().open(23, on), true);
        }
    }

    static void openAnObjectThatIsSoAlready() {
        Check c = new Check("5: that it is so already is no ground");
        c.due("open(0, true)", Shelves.single().open(0, true), true);
        c.due("open(0, false)", Shelves.closed().open(0, false), true);
        Refusal.changesNothing(c, "open(0, true)", Shelves::single, x -> x.open(0, true) ? 1 : 0);
        Refusal.changesNothing(c, "open(0, false)", Shelves::closed, x -> x.open(0, false) ? 1 : 0);
    }

    static void removeNoSuchObject() {
        Check c = new Check("6: false if there is none such");
        for (int object : NOT_THERE) {
            Refusal.isFalse(c, "remove(" + object + ")", Shelves::single, x -> x.remove(object));
        }
        for (int object : NO_NUMBERS) {
            Refusal.isFalse(c, "remove(" + object + "), there are 24", Shelves::full, x -> x.remove(object));
        }
        Refusal.isFalse(c, "remove(0), new", ZoneShelf::new, x -> x.remove(0));
        Refusal.isFalse(c, "remove(0), removed", Shelves::emptied, x -> x.remove(0));
        c.due("remove(0)", Shelves.full().remove(0), true);
        c.due("remove(23)", Shelves.full().remove(23), true);
    }

    static void removeUntilTheShelfIsEmpty() {
        Check c = new Check("6: an object goes, down to none");
        ZoneShelf x = Shelves.full();
        for (int object = 23; object >= 0; object--) {
            c.due("remove(" + object + ")", x.remove(object), true);
            c.due("remove(" + object + ") again", x.remove(object), false);
            c.due("objects()", x.objects(), object);
            c.due("room()", x.room(), 200 - 8 * object);
        }
        c.due("all that can be asked", Picture.of(x), Picture.of(new ZoneShelf()));
    }

    static void renameNoSuchObject() {
        Check c = new Check("7: false if there is none such");
        for (int object : NOT_THERE) {
            Refusal.isFalse(c, "rename(" + object + ", 7)", Shelves::single, x -> x.rename(object, 7));
        }
        for (int object : NO_NUMBERS) {
            Refusal.isFalse(c, "rename(" + object + ", 7), there are 24", Shelves::full, x -> x.rename(object, 7));
        }
        Refusal.isFalse(c, "rename(0, 7), new", ZoneShelf::new, x -> x.rename(0, 7));
        Refusal.isFalse(c, "rename(0, 7), removed", Shelves::emptied, x -> x.rename(0, 7));
        c.due("rename(0, 7)", Shelves.full().rename(0, 7), true);
        c.due("rename(23, 7)", Shelves.full().rename(23, 7), true);
    }

    static void renameWithNoSuchName() {
        Check c = new Check("7: false if there is no such name");
        for (int name : NO_NAMES) {
            Refusal.isFalse(c, "rename(0, " + name + ")", Shelves::single, x -> x.rename(0, name));
            Refusal.isFalse(c, "rename(23, " + name + "), there are 24", Shelves::full, x -> x.rename(23, name));
        }
        c.due("rename(0, 0)", Shelves.single().rename(0, 0), true);
        c.due("rename(0, 9999)", Shelves.single().rename(0, 9999), true);
    }

    static void renameWithAnothersName() {
        Check c = new Check("7: false if one has it");
        for (int name = 101; name <= 123; name++) {
            int taken = name;
            Refusal.isFalse(c, "rename(0, " + name + ")", Shelves::full, x -> x.rename(0, taken));
        }
        Refusal.isFalse(c, "rename(23, 100)", Shelves::full, x -> x.rename(23, 100));
        c.due("rename(0, 99)", Shelves.full().rename(0, 99), true);
        c.due("rename(0, 124)", Shelves.full().rename(0, 124), true);
        ZoneShelf x = Shelves.full();
        x.remove(1);
        c.due("rename(0, 101), that one was removed", x.rename(0, 101), true);
        c.due("rename(2, 100), the old name", x.rename(2, 100), true);
    }

    static void renameWithItsOwnName() {
        Check c = new Check("7: false if this one has it");
        Refusal.isFalse(c, "rename(0, 5)", Shelves::single, x -> x.rename(0, 5));
        Refusal.isFalse(c, "rename(0, 5), not OPEN", Shelves::closed, x -> x.rename(0, 5));
        Refusal.isFalse(c, "rename(23, 123), there are 24", Shelves::full, x -> x.rename(23, 123));
        c.due("rename(0, 4)", Shelves.single().rename(0, 4), true);
        c.due("rename(0, 6)", Shelves.single().rename(0, 6), true);
        ZoneShelf x = Shelves.single();
        x.rename(0, 6);
        c.due("rename(0, 6), renamed to it", x.rename(0, 6), false);
        c.due("rename(0, 5), back", x.rename(0, 5), true);
    }
}
