/** The document's promises one by one: ordinary inputs, the named edges, wrong inputs. */
public final class PromisesTest {
    private static final int NONE = -1;
    private static final int MIN = Integer.MIN_VALUE;
    private static final int MAX = Integer.MAX_VALUE;
    private static final int[] NO_OBJECTS = {-1, 1, 23, 24, 25, MIN, MAX};

    public static void main(String[] args) {
        Check.runAll(PromisesTest.class);
    }

    /** Object 0 alone, with name 5, hint 1, words 10 and 11, OPEN. */
    private static ZoneShelf one() {
        ZoneShelf x = new ZoneShelf();
        x.create(5, 1);
        x.append(0, 10);
        x.append(0, 11);
        return x;
    }

    /** The shelf of one(), synced, without power. */
    private static ZoneShelf down() {
        ZoneShelf x = one();
        x.sync();
        x.cut();
        return x;
    }

    /** Objects 0 .. many - 1 with the names 100, 101, and so on. */
    private static ZoneShelf filled(int many) {
        ZoneShelf x = new ZoneShelf();
        for (int i = 0; i < many; i++) {
            x.create(100 + i, i % 4);
        }
        return x;
    }

    static void newObject() {
        Check c = new Check("1 a new object");
        ZoneShelf x = new ZoneShelf();
        c.due("isUp()", x.isUp(), true);
        c.due("objects()", x.objects(), 0);
        c.due("room()", x.room(), 200);
        c.due("find(0)", x.find(0), NONE);
        c.due("list(0)", x.list(0), NONE);
        for (int i = 0; i < 24; i++) {
            c.due("object(" + i + ", 0)", x.object(i, 0), NONE);
        }
        ZoneShelf y = one();
        c.due("objects() of another shelf", x.objects(), 0);
        c.due("objects()", y.objects(), 1);
        c.due("NONE", ZoneShelf.NONE, -1);
    }

    static void create() {
        Check c = new Check("2 create");
        ZoneShelf x = new ZoneShelf();
        c.due("create(0, 0)", x.create(0, 0), 0);
        c.due("create(9999, 3)", x.create(9999, 3), 1);
        c.due("object(1, 0)", x.object(1, 0), 9999);
        c.due("object(1, 1)", x.object(1, 1), 3);
        c.due("object(1, 2)", x.object(1, 2), 0);
        c.due("object(1, 3)", x.object(1, 3), 1);
        for (int name : new int[] {-1, 10000, MIN, MAX}) {
            c.due("create(" + name + ", 0)", x.create(name, 0), NONE);
        }
        for (int hint : new int[] {-1, 4, MIN, MAX}) {
            c.due("create(7, " + hint + ")", x.create(7, hint), NONE);
        }
        c.due("create(0, 1) again", x.create(0, 1), NONE);
        c.due("object(0, 1)", x.object(0, 1), 0);
        c.due("objects()", x.objects(), 2);
        c.due("create(7, 1)", x.create(7, 1), 2);
        c.due("create(8, 2)", x.create(8, 2), 3);
        c.due("object(2, 1)", x.object(2, 1), 1);
        c.due("object(3, 1)", x.object(3, 1), 2);
    }

    static void createTakesTheLeastFreeNumber() {
        Check c = new Check("2 create, numbers");
        ZoneShelf x = filled(24);
        c.due("objects()", x.objects(), 24);
        c.due("object(23, 0)", x.object(23, 0), 123);
        c.due("create(1, 0) as the 25th", x.create(1, 0), NONE);
        c.due("find(1)", x.find(1), NONE);
        x.appendRow(3, 1, 5);
        x.open(3, false);
        x.remove(9);
        x.remove(3);
        c.due("create(1, 2)", x.create(1, 2), 3);
        c.due("object(3, 1)", x.object(3, 1), 2);
        c.due("object(3, 2), none of the old words", x.object(3, 2), 0);
        c.due("object(3, 3), OPEN though the old one was not", x.object(3, 3), 1);
        c.due("word(3, 0)", x.word(3, 0), 0);
        c.due("create(103, 0), the removed one's name", x.create(103, 0), 9);
        c.due("create(2, 0)", x.create(2, 0), NONE);
    }

    static void createDown() {
        Check c = new Check("2 create, DOWN");
        ZoneShelf x = down();
        c.due("create(6, 0)", x.create(6, 0), NONE);
        x.mount();
        c.due("objects()", x.objects(), 1);
        c.due("create(5, 0), its name is back", x.create(5, 0), NONE);
        c.due("create(6, 0)", x.create(6, 0), 1);
    }

    static void append() {
        Check c = new Check("3 append");
        ZoneShelf x = new ZoneShelf();
        x.create(5, 0);
        for (int word : new int[] {7, 0, -1, MIN, MAX}) {
            c.due("append(0, " + word + ")", x.append(0, word), true);
        }
        c.due("object(0, 2)", x.object(0, 2), 5);
        c.due("word(0, 0)", x.word(0, 0), 7);
        c.due("word(0, 1)", x.word(0, 1), 0);
        c.due("word(0, 2)", x.word(0, 2), -1);
        c.due("word(0, 3)", x.word(0, 3), MIN);
        c.due("word(0, 4)", x.word(0, 4), MAX);
        for (int object : NO_OBJECTS) {
            c.due("append(" + object + ", 1)", x.append(object, 1), false);
        }
        x.open(0, false);
        c.due("append(0, 8), not OPEN", x.append(0, 8), false);
        c.due("object(0, 2)", x.object(0, 2), 5);
        x.open(0, true);
        c.due("append(0, 8), OPEN again", x.append(0, 8), true);
        c.due("word(0, 5)", x.word(0, 5), 8);
    }

    static void appendFull() {
        Check c = new Check("3 append, full");
        ZoneShelf x = filled(5);
        for (int i = 0; i < 64; i++) {
            c.due("append(0, " + i + ")", x.append(0, i), true);
        }
        c.due("append(0, 64), has 64", x.append(0, 64), false);
        c.due("append(1, 9), its neighbour", x.append(1, 9), true);
        c.due("word(0, 63)", x.word(0, 63), 63);
        c.due("word(1, 0)", x.word(1, 0), 9);
        x.appendRow(1, 1, 63);
        x.appendRow(2, 1, 64);
        x.appendRow(3, 1, 7);
        c.due("append(4, 1), the 200th", x.append(4, 1), true);
        c.due("append(4, 2), the 201st", x.append(4, 2), false);
        c.due("append(3, 2), the 201st", x.append(3, 2), false);
        c.due("object(4, 2)", x.object(4, 2), 1);
        x.remove(3);
        c.due("append(4, 3)", x.append(4, 3), true);
    }

    static void appendRow() {
        Check c = new Check("4 appendRow");
        ZoneShelf x = one();
        c.due("appendRow(0, 100, 3)", x.appendRow(0, 100, 3), true);
        c.due("object(0, 2)", x.object(0, 2), 5);
        c.due("word(0, 1)", x.word(0, 1), 11);
        c.due("word(0, 2)", x.word(0, 2), 100);
        c.due("word(0, 3)", x.word(0, 3), 101);
        c.due("word(0, 4)", x.word(0, 4), 102);
        c.due("appendRow(0, -1, 1)", x.appendRow(0, -1, 1), true);
        c.due("word(0, 5)", x.word(0, 5), -1);
        c.due("appendRow(0, MAX, 2)", x.appendRow(0, MAX, 2), true);
        c.due("word(0, 6)", x.word(0, 6), MAX);
        c.due("word(0, 7), wrapped", x.word(0, 7), MIN);
        c.due("room()", x.room(), 192);
    }

    static void appendRowEdges() {
        Check c = new Check("4 appendRow, edges");
        ZoneShelf x = filled(5);
        c.due("appendRow(0, 1, 65)", x.appendRow(0, 1, 65), false);
        c.due("object(0, 2)", x.object(0, 2), 0);
        c.due("appendRow(1, 70, 60)", x.appendRow(1, 70, 60), true);
        c.due("appendRow(0, 1, 64)", x.appendRow(0, 1, 64), true);
        c.due("word(1, 0), its neighbour's", x.word(1, 0), 70);
        c.due("appendRow(1, 1, 5)", x.appendRow(1, 1, 5), false);
        c.due("object(1, 2)", x.object(1, 2), 60);
        c.due("appendRow(1, 1, 4)", x.appendRow(1, 1, 4), true);
        c.due("appendRow(2, 1, 64)", x.appendRow(2, 1, 64), true);
        c.due("appendRow(3, 1, 9), 201 in all", x.appendRow(3, 1, 9), false);
        c.due("object(3, 2)", x.object(3, 2), 0);
        c.due("word(3, 0)", x.word(3, 0), 0);
        c.due("appendRow(3, 1, 8), 200 in all", x.appendRow(3, 1, 8), true);
        c.due("appendRow(4, 1, 1)", x.appendRow(4, 1, 1), false);
        c.due("room()", x.room(), 0);
    }

    static void appendRowWrong() {
        Check c = new Check("4 appendRow, wrong");
        ZoneShelf x = one();
        String before = Picture.of(x);
        for (int many : new int[] {0, -1, MIN, 63, 200, MAX}) {
            c.due("appendRow(0, 1, " + many + ")", x.appendRow(0, 1, many), false);
        }
        for (int object : NO_OBJECTS) {
            c.due("appendRow(" + object + ", 1, 2)", x.appendRow(object, 1, 2), false);
        }
        c.due("all that can be asked", Picture.of(x), before);
        x.open(0, false);
        c.due("appendRow(0, 1, 2), not OPEN", x.appendRow(0, 1, 2), false);
        c.due("object(0, 2)", x.object(0, 2), 2);
    }

    static void open() {
        Check c = new Check("5 open");
        ZoneShelf x = filled(2);
        x.remove(1);
        x.create(200, 0);
        c.due("open(0, true), it is", x.open(0, true), true);
        c.due("open(0, false)", x.open(0, false), true);
        c.due("object(0, 3)", x.object(0, 3), 0);
        c.due("object(1, 3)", x.object(1, 3), 1);
        c.due("open(0, false) again", x.open(0, false), true);
        c.due("object(0, 3)", x.object(0, 3), 0);
        c.due("open(0, true)", x.open(0, true), true);
        c.due("object(0, 3)", x.object(0, 3), 1);
        x.remove(1);
        for (int object : NO_OBJECTS) {
            c.due("open(" + object + ", true)", x.open(object, true), false);
            c.due("open(" + object + ", false)", x.open(object, false), false);
        }
    }

    static void remove() {
        Check c = new Check("6 remove");
        ZoneShelf x = filled(3);
        x.appendRow(0, 1, 10);
        x.appendRow(1, 50, 20);
        x.appendRow(2, 90, 30);
        x.open(1, false);
        c.due("remove(1), though not OPEN", x.remove(1), true);
        c.due("remove(1) again", x.remove(1), false);
        c.due("objects()", x.objects(), 2);
        c.due("room()", x.room(), 160);
        c.due("find(101)", x.find(101), NONE);
        c.due("object(1, 0)", x.object(1, 0), NONE);
        c.due("word(1, 0)", x.word(1, 0), 0);
        c.due("list(1)", x.list(1), 2);
        c.due("word(0, 9)", x.word(0, 9), 10);
        c.due("word(2, 29)", x.word(2, 29), 119);
        for (int object : NO_OBJECTS) {
            c.due("remove(" + object + ")", x.remove(object), false);
        }
        c.due("objects()", x.objects(), 2);
    }

    static void rename() {
        Check c = new Check("7 rename");
        ZoneShelf x = filled(2);
        c.due("rename(0, 100), its own", x.rename(0, 100), false);
        c.due("rename(0, 101), another's", x.rename(0, 101), false);
        for (int name : new int[] {-1, 10000, MIN, MAX}) {
            c.due("rename(0, " + name + ")", x.rename(0, name), false);
        }
        c.due("object(0, 0)", x.object(0, 0), 100);
        c.due("rename(0, 9999)", x.rename(0, 9999), true);
        c.due("find(100)", x.find(100), NONE);
        c.due("find(9999)", x.find(9999), 0);
        c.due("list(0)", x.list(0), 1);
        c.due("rename(1, 100), now free", x.rename(1, 100), true);
        x.open(1, false);
        c.due("rename(1, 0), though not OPEN", x.rename(1, 0), true);
        c.due("object(1, 0)", x.object(1, 0), 0);
        x.remove(1);
        for (int object : NO_OBJECTS) {
            c.due("rename(" + object + ", 7)", x.rename(object, 7), false);
        }
        c.due("rename(0, 0), a removed one's", x.rename(0, 0), true);
    }

    static void sync() {
        Check c = new Check("8 sync");
        ZoneShelf x = one();
        String before = Picture.of(x);
        c.due("sync()", x.sync(), true);
        c.due("sync() again", x.sync(), true);
        c.due("all that can be asked", Picture.of(x), before);
        x.cut();
        c.due("sync(), DOWN", x.sync(), false);
        x.mount();
        c.due("all after the mount", Picture.of(x), before);
        x.remove(0);
        x.sync();
        x.cut();
        x.mount();
        c.due("objects(), a removal synced", x.objects(), 0);
    }

    /** 22 of 24 objects with different words, some not OPEN. */
    private static ZoneShelf crowded() {
        ZoneShelf x = filled(24);
        for (int object = 0; object < 24; object++) {
            x.appendRow(object, object * 1000 - 5, 8);
            x.open(object, object % 3 != 0);
        }
        x.remove(4);
        x.remove(20);
        x.appendRow(23, 7, 20);
        return x;
    }

    static void syncKeepsAll() {
        Check c = new Check("8 sync, a crowded shelf");
        ZoneShelf x = crowded();
        x.sync();
        for (int object = 0; object < 24; object++) {
            x.remove(object);
        }
        for (int object = 0; object < 3; object++) {
            x.create(object, 3);
            x.appendRow(object, -900, 64);
        }
        x.cut();
        x.mount();
        c.due("all after the mount", Picture.of(x), Picture.of(crowded()));
        c.due("create(1, 0), numbers are those of then", x.create(1, 0), 4);
    }

    static void tear() {
        Check c = new Check("9 tear");
        ZoneShelf x = one();
        x.sync();
        String synced = Picture.of(x);
        x.append(0, 12);
        x.create(6, 2);
        c.due("tear()", x.tear(), true);
        c.due("isUp()", x.isUp(), false);
        c.due("tear(), DOWN", x.tear(), false);
        c.due("cut(), DOWN", x.cut(), false);
        x.mount();
        c.due("all after the mount", Picture.of(x), synced);
        ZoneShelf y = one();
        y.tear();
        y.mount();
        c.due("objects(), torn before the first sync", y.objects(), 0);
        c.due("room()", y.room(), 200);
    }

    static void cut() {
        Check c = new Check("10 cut");
        ZoneShelf x = new ZoneShelf();
        c.due("cut()", x.cut(), true);
        c.due("isUp()", x.isUp(), false);
        c.due("cut() again", x.cut(), false);
        c.due("tear(), DOWN", x.tear(), false);
        c.due("isUp()", x.isUp(), false);
        x.mount();
        c.due("cut(), mounted", x.cut(), true);
    }

    static void mount() {
        Check c = new Check("11 mount");
        ZoneShelf x = one();
        String before = Picture.of(x);
        c.due("mount(), UP", x.mount(), false);
        c.due("all that can be asked", Picture.of(x), before);
        x.cut();
        c.due("mount()", x.mount(), true);
        c.due("isUp()", x.isUp(), true);
        c.due("mount() again", x.mount(), false);
        c.due("objects(), none before the first sync", x.objects(), 0);
        c.due("find(5)", x.find(5), NONE);
        c.due("room()", x.room(), 200);
    }

    static void mountLosesWhatWasNotSynced() {
        Check c = new Check("11 mount, changes after the sync");
        ZoneShelf x = filled(3);
        x.appendRow(0, 1, 4);
        x.open(2, false);
        x.sync();
        String synced = Picture.of(x);
        for (int round = 0; round < 3; round++) {
            x.append(0, 9);
            x.rename(1, 7);
            x.open(0, false);
            x.open(2, true);
            x.remove(2);
            x.create(8, 3);
            x.appendRow(2, 5, 5);
            x.create(9, 1);
            boolean torn = round == 1;
            c.due(torn ? "tear()" : "cut()", torn ? x.tear() : x.cut(), true);
            x.append(0, 77);
            x.remove(0);
            c.due("mount()", x.mount(), true);
            c.due("all after mount " + round, Picture.of(x), synced);
        }
        x.mount();
        x.append(0, 9);
        x.mount();
        c.due("object(0, 2), a mount while UP loses nothing", x.object(0, 2), 5);
    }

    static void tidy() {
        Check c = new Check("12 tidy");
        ZoneShelf x = one();
        x.sync();
        String synced = Picture.of(x);
        x.append(0, 12);
        x.create(6, 0);
        String before = Picture.of(x);
        c.due("tidy()", x.tidy(), true);
        c.due("tidy() again", x.tidy(), true);
        c.due("all that can be asked", Picture.of(x), before);
        x.cut();
        c.due("tidy(), DOWN", x.tidy(), false);
        c.due("isUp()", x.isUp(), false);
        x.mount();
        c.due("all after the mount: a tidy is no sync", Picture.of(x), synced);
    }

    static void isUp() {
        Check c = new Check("13 isUp");
        ZoneShelf x = new ZoneShelf();
        x.sync();
        x.tidy();
        c.due("isUp()", x.isUp(), true);
        x.tear();
        c.due("isUp(), torn", x.isUp(), false);
        x.mount();
        c.due("isUp(), mounted", x.isUp(), true);
        x.cut();
        c.due("isUp(), cut", x.isUp(), false);
        x.sync();
        c.due("isUp(), after a sync DOWN", x.isUp(), false);
    }

    static void objects() {
        Check c = new Check("14 objects");
        ZoneShelf x = new ZoneShelf();
        for (int i = 0; i < 24; i++) {
            x.create(i, 0);
            c.due("objects()", x.objects(), i + 1);
        }
        x.create(24, 0);
        c.due("objects()", x.objects(), 24);
        x.remove(0);
        x.remove(0);
        x.remove(23);
        c.due("objects()", x.objects(), 22);
        x.sync();
        x.cut();
        c.due("objects(), DOWN", x.objects(), 0);
        x.mount();
        c.due("objects(), mounted", x.objects(), 22);
    }

    static void room() {
        Check c = new Check("15 room");
        ZoneShelf x = filled(4);
        c.due("room()", x.room(), 200);
        x.append(0, 1);
        c.due("room()", x.room(), 199);
        x.appendRow(0, 1, 63);
        c.due("room()", x.room(), 136);
        x.append(0, 1);
        c.due("room(), nothing appended", x.room(), 136);
        x.appendRow(1, 1, 64);
        x.sync();
        x.remove(0);
        c.due("room(), one removed", x.room(), 136);
        x.cut();
        c.due("room(), DOWN", x.room(), 0);
        x.mount();
        c.due("room(), mounted", x.room(), 72);
        x.open(2, false);
        x.open(3, false);
        c.due("room(), none OPEN with room", x.room(), 72);
    }

    static void object() {
        Check c = new Check("16 object");
        ZoneShelf x = one();
        c.due("object(0, 0)", x.object(0, 0), 5);
        c.due("object(0, 1)", x.object(0, 1), 1);
        c.due("object(0, 2)", x.object(0, 2), 2);
        c.due("object(0, 3)", x.object(0, 3), 1);
        x.open(0, false);
        c.due("object(0, 3), not OPEN", x.object(0, 3), 0);
        for (int what : new int[] {-1, 4, MIN, MAX}) {
            c.due("object(0, " + what + ")", x.object(0, what), NONE);
        }
        for (int object : NO_OBJECTS) {
            for (int what = -1; what <= 4; what++) {
                c.due("object(" + object + ", " + what + ")", x.object(object, what), NONE);
            }
        }
    }

    static void word() {
        Check c = new Check("17 word");
        ZoneShelf x = filled(2);
        x.appendRow(0, 1, 64);
        x.appendRow(1, 500, 3);
        c.due("word(0, 0)", x.word(0, 0), 1);
        c.due("word(0, 63)", x.word(0, 63), 64);
        c.due("word(1, 0)", x.word(1, 0), 500);
        c.due("word(1, 2)", x.word(1, 2), 502);
        c.due("word(1, 3)", x.word(1, 3), 0);
        for (int i : new int[] {-1, 64, 65, MIN, MAX}) {
            c.due("word(0, " + i + ")", x.word(0, i), 0);
            c.due("word(1, " + i + ")", x.word(1, i), 0);
        }
        x.open(0, false);
        c.due("word(0, 5), not OPEN", x.word(0, 5), 6);
        x.remove(1);
        for (int object : NO_OBJECTS) {
            c.due("word(" + object + ", 0)", x.word(object, 0), 0);
        }
        x.sync();
        x.appendRow(0, 1, 1);
        x.cut();
        c.due("word(0, 0), DOWN", x.word(0, 0), 0);
    }

    static void find() {
        Check c = new Check("18 find");
        ZoneShelf x = new ZoneShelf();
        x.create(9999, 0);
        x.create(0, 0);
        x.create(42, 0);
        x.open(2, false);
        c.due("find(9999)", x.find(9999), 0);
        c.due("find(0)", x.find(0), 1);
        c.due("find(42), not OPEN", x.find(42), 2);
        for (int name : new int[] {1, 43, 9998, 10000, -1, -2, MIN, MAX}) {
            c.due("find(" + name + ")", x.find(name), NONE);
        }
        x.remove(0);
        c.due("find(9999), removed", x.find(9999), NONE);
        c.due("find(-1), a number is free", x.find(-1), NONE);
        x.sync();
        x.cut();
        c.due("find(0), DOWN", x.find(0), NONE);
    }

    static void list() {
        Check c = new Check("19 list");
        ZoneShelf x = new ZoneShelf();
        int[] names = {500, 9999, 10, 0, 1000, 9};
        for (int name : names) {
            x.create(name, 0);
        }
        int[] order = {3, 5, 2, 0, 4, 1};
        for (int k = 0; k < order.length; k++) {
            c.due("list(" + k + ")", x.list(k), order[k]);
        }
        for (int k : new int[] {-1, 6, 23, 24, MIN, MAX}) {
            c.due("list(" + k + ")", x.list(k), NONE);
        }
        x.remove(3);
        x.rename(1, 11);
        int[] later = {5, 2, 1, 0, 4, NONE};
        for (int k = 0; k < later.length; k++) {
            c.due("list(" + k + ") later", x.list(k), later[k]);
        }
        ZoneShelf full = new ZoneShelf();
        for (int i = 0; i < 24; i++) {
            full.create(23 - i, 0);
        }
        c.due("list(0), full", full.list(0), 23);
        c.due("list(23), full", full.list(23), 0);
        c.due("list(24), full", full.list(24), NONE);
    }

    static void downAnswersNothing() {
        Check c = new Check("2 .. 19, DOWN");
        ZoneShelf x = down();
        c.due("create(6, 0)", x.create(6, 0), NONE);
        c.due("append(0, 1)", x.append(0, 1), false);
        c.due("appendRow(0, 1, 2)", x.appendRow(0, 1, 2), false);
        c.due("open(0, false)", x.open(0, false), false);
        c.due("open(0, true)", x.open(0, true), false);
        c.due("rename(0, 6)", x.rename(0, 6), false);
        c.due("remove(0)", x.remove(0), false);
        c.due("sync()", x.sync(), false);
        c.due("tear()", x.tear(), false);
        c.due("cut()", x.cut(), false);
        c.due("tidy()", x.tidy(), false);
        c.due("isUp()", x.isUp(), false);
        c.due("objects()", x.objects(), 0);
        c.due("room()", x.room(), 0);
        for (int what = 0; what < 4; what++) {
            c.due("object(0, " + what + ")", x.object(0, what), NONE);
        }
        c.due("word(0, 0)", x.word(0, 0), 0);
        c.due("find(5)", x.find(5), NONE);
        c.due("list(0)", x.list(0), NONE);
        x.mount();
        c.due("all after the mount", Picture.of(x), Picture.of(one()));
    }
}
