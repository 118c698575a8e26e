import java.util.function.Consumer;

/**
 * Terms: "MOUNTED, it is UP, with just those objects, names, hints, words, and OPEN or not, that
 * there were at the latest SYNC (none before the first one); their numbers are those of then."
 * With promises 8 to 12, which say what is a sync and what is none.
 */
public final class MountedTest {
    private static final int NONE = -1;

    public static void main(String[] args) {
        Check.runAll(MountedTest.class);
    }

    /**
     * Objects 1 (name 30, hint 3, words 1 2 3, OPEN), 2 (name 20, hint 2, no words, OPEN) and
     * 4 (name 10, hint 0, words 7 8, not OPEN); the numbers 0 and 3 are free. Synced.
     */
    private static ZoneShelf synced() {
        ZoneShelf x = new ZoneShelf();
        x.create(50, 1);
        x.create(30, 3);
        x.create(20, 2);
        x.create(40, 1);
        x.create(10, 0);
        x.appendRow(1, 1, 3);
        x.appendRow(4, 7, 2);
        x.open(4, false);
        x.remove(0);
        x.remove(3);
        x.sync();
        return x;
    }

    /** A change after the sync is lost, whether the power fails by a cut or by a tear. */
    private static void isLost(Check c, String about, Consumer<ZoneShelf> change) {
        String then = Picture.of(synced());
        ZoneShelf x = synced();
        change.accept(x);
        x.cut();
        x.mount();
        c.due("all after " + about + ", a cut and a mount", Picture.of(x), then);
        change.accept(x);
        x.tear();
        x.mount();
        c.due("all after " + about + ", a tear and a mount", Picture.of(x), then);
    }

    /** A change before the sync is there again. */
    private static void isKept(Check c, String about, Consumer<ZoneShelf> change) {
        ZoneShelf twin = synced();
        change.accept(twin);
        String then = Picture.of(twin);
        ZoneShelf x = synced();
        change.accept(x);
        c.due("sync() after " + about, x.sync(), true);
        x.cut();
        x.mount();
        c.due("all after " + about + ", a sync, a cut and a mount", Picture.of(x), then);
        x.tear();
        x.mount();
        c.due("all after " + about + ", a sync, a tear and a mount", Picture.of(x), then);
    }

    static void itIsUp() {
        Check c = new Check("MOUNTED: it is UP");
        ZoneShelf x = synced();
        x.cut();
        c.due("isUp(), DOWN", x.isUp(), false);
        c.due("mount()", x.mount(), true);
        c.due("isUp()", x.isUp(), true);
        c.due("sync()", x.sync(), true);
        c.due("tidy()", x.tidy(), true);
        c.due("cut()", x.cut(), true);
    }

    static void noneBeforeTheFirstSync() {
        Check c = new Check("MOUNTED: none before the first sync");
        for (boolean torn : new boolean[] {true, false}) {
            ZoneShelf x = new ZoneShelf();
            x.create(5, 1);
            x.appendRow(0, 1, 64);
            x.create(6, 2);
            x.tidy();
            c.due("the power fails", torn ? x.tear() : x.cut(), true);
            x.mount();
            c.due("all after the mount", Picture.of(x), Picture.of(new ZoneShelf()));
            c.due("find(5)", x.find(5), NONE);
            c.due("create(5, 0)", x.create(5, 0), 0);
            c.due("object(0, 2)", x.object(0, 2), 0);
        }
    }

    static void noneBeforeTheFirstSyncThoughTheShelfWasEmpty() {
        Check c = new Check("MOUNTED: a new shelf");
        ZoneShelf x = new ZoneShelf();
        x.cut();
        c.due("mount()", x.mount(), true);
        c.due("all after the mount", Picture.of(x), Picture.of(new ZoneShelf()));
    }

    static void objects() {
        Check c = new Check("MOUNTED: just those objects");
        isLost(c, "create(7, 0)", x -> x.create(7, 0));
        isLost(c, "remove(1)", x -> x.remove(1));
        isLost(c, "remove of all", MountedTest::removeAll);
        isLost(c, "24 objects", MountedTest::fillNumbers);
        isKept(c, "create(7, 0)", x -> x.create(7, 0));
        isKept(c, "remove(1)", x -> x.remove(1));
        isKept(c, "remove of all", MountedTest::removeAll);
        isKept(c, "24 objects", MountedTest::fillNumbers);
    }

    private static void removeAll(ZoneShelf x) {
        x.remove(1);
        x.remove(2);
        x.remove(4);
    }

    private static void fillNumbers(ZoneShelf x) {
        for (int name = 200; name < 221; name++) {
            x.create(name, name % 4);
        }
    }

    static void names() {
        Check c = new Check("MOUNTED: names");
        isLost(c, "rename(1, 7)", x -> x.rename(1, 7));
        isLost(c, "two names changed about", MountedTest::changeNamesAbout);
        isKept(c, "rename(1, 7)", x -> x.rename(1, 7));
        isKept(c, "two names changed about", MountedTest::changeNamesAbout);
        ZoneShelf x = synced();
        x.rename(1, 7);
        x.create(8, 0);
        x.cut();
        x.mount();
        c.due("find(7)", x.find(7), NONE);
        c.due("find(8)", x.find(8), NONE);
        c.due("find(30)", x.find(30), 1);
        c.due("create(30, 0)", x.create(30, 0), NONE);
        c.due("rename(2, 30)", x.rename(2, 30), false);
        c.due("rename(2, 7)", x.rename(2, 7), true);
        c.due("create(8, 0)", x.create(8, 0), 0);
    }

    private static void changeNamesAbout(ZoneShelf x) {
        x.rename(1, 9999);
        x.rename(2, 30);
        x.rename(1, 20);
    }

    static void hints() {
        Check c = new Check("MOUNTED: hints");
        isLost(c, "another hint", MountedTest::makeObject1Anew);
        isKept(c, "another hint", MountedTest::makeObject1Anew);
        for (int hint = 0; hint < 4; hint++) {
            ZoneShelf x = new ZoneShelf();
            x.create(5, hint);
            x.sync();
            x.cut();
            x.mount();
            c.due("object(0, 1)", x.object(0, 1), hint);
        }
    }

    /** Number 0 is free, and the least: it is taken for a while, so that 1 is the least. */
    private static void makeObject1Anew(ZoneShelf x) {
        x.remove(1);
        x.create(60, 2);
        x.create(30, 1);
        x.remove(0);
    }

    static void words() {
        Check c = new Check("MOUNTED: words");
        isLost(c, "append(1, 9)", x -> x.append(1, 9));
        isLost(c, "append(2, 9), the first", x -> x.append(2, 9));
        isLost(c, "appendRow(1, 9, 61)", x -> x.appendRow(1, 9, 61));
        isLost(c, "200 words", MountedTest::fillWords);
        isLost(c, "other words", MountedTest::changeWords);
        isKept(c, "append(1, 9)", x -> x.append(1, 9));
        isKept(c, "append(2, 9), the first", x -> x.append(2, 9));
        isKept(c, "appendRow(1, 9, 61)", x -> x.appendRow(1, 9, 61));
        isKept(c, "other words", MountedTest::changeWords);
    }

    static void otherWordsAsMany() {
        Check c = new Check("MOUNTED: other words, as many");
        isLost(c, "other words", MountedTest::changeWordsAlone);
        isKept(c, "other words", MountedTest::changeWordsAlone);
    }

    /** Object 1 has the same name, hint and number of words as before. */
    private static void changeWordsAlone(ZoneShelf x) {
        x.remove(1);
        x.create(60, 2);
        x.create(30, 3);
        x.remove(0);
        x.appendRow(1, 2, 3);
    }

    static void eachWordOfAFullRow() {
        Check c = new Check("MOUNTED: all 64 words, though 64 others came behind the sync");
        for (int object = 0; object < 24; object++) {
            ZoneShelf x = Shelves.numbered(24);
            x.appendRow(object, 1, 64);
            x.sync();
            x.remove(object);
            x.create(7, 0);
            c.due("appendRow(" + object + ", 500, 64)", x.appendRow(object, 500, 64), true);
            x.cut();
            x.mount();
            for (int i = 0; i < 64; i++) {
                c.due("word(" + object + ", " + i + ")", x.word(object, i), 1 + i);
            }
        }
    }

    static void allWords() {
        Check c = new Check("MOUNTED: 200 words");
        ZoneShelf x = synced();
        fillWords(x);
        c.due("room()", x.room(), 0);
        x.sync();
        x.remove(1);
        x.cut();
        c.due("room(), DOWN", x.room(), 0);
        x.mount();
        ZoneShelf twin = synced();
        fillWords(twin);
        c.due("all after the mount", Picture.of(x), Picture.of(twin));
        c.due("append(3, 1)", x.append(3, 1), false);
    }

    private static void fillWords(ZoneShelf x) {
        x.create(61, 0);
        x.create(62, 0);
        x.appendRow(1, 300, 61);
        x.appendRow(2, 400, 64);
        x.appendRow(0, 500, 64);
        x.appendRow(3, 600, 6);
    }

    private static void changeWords(ZoneShelf x) {
        makeObject1Anew(x);
        x.appendRow(1, -50, 5);
    }

    static void openOrNot() {
        Check c = new Check("MOUNTED: OPEN or not");
        isLost(c, "open(1, false)", x -> x.open(1, false));
        isLost(c, "open(4, true)", x -> x.open(4, true));
        isKept(c, "open(1, false)", x -> x.open(1, false));
        isKept(c, "open(4, true)", x -> x.open(4, true));
        ZoneShelf x = synced();
        x.open(1, false);
        x.open(4, true);
        x.cut();
        x.mount();
        c.due("append(1, 9)", x.append(1, 9), true);
        c.due("append(4, 9)", x.append(4, 9), false);
        c.due("appendRow(4, 9, 2)", x.appendRow(4, 9, 2), false);
    }

    static void numbers() {
        Check c = new Check("MOUNTED: their numbers are those of then");
        for (boolean filled : new boolean[] {true, false}) {
            ZoneShelf x = synced();
            if (filled) {
                fillNumbers(x);
            }
            x.cut();
            x.mount();
            c.due("object(0, 0)", x.object(0, 0), NONE);
            c.due("object(1, 0)", x.object(1, 0), 30);
            c.due("object(2, 0)", x.object(2, 0), 20);
            c.due("object(3, 0)", x.object(3, 0), NONE);
            c.due("object(4, 0)", x.object(4, 0), 10);
            c.due("object(5, 0)", x.object(5, 0), NONE);
            c.due("list(0)", x.list(0), 4);
            c.due("list(1)", x.list(1), 2);
            c.due("list(2)", x.list(2), 1);
            c.due("list(3)", x.list(3), NONE);
            c.due("create(70, 0)", x.create(70, 0), 0);
            c.due("create(71, 0)", x.create(71, 0), 3);
            c.due("create(72, 0)", x.create(72, 0), 5);
        }
    }

    static void theLastNumberAlone() {
        Check c = new Check("MOUNTED: object 23 alone");
        ZoneShelf x = Shelves.full();
        for (int object = 0; object < 23; object++) {
            x.remove(object);
        }
        x.sync();
        x.remove(23);
        x.cut();
        x.mount();
        c.due("objects()", x.objects(), 1);
        c.due("list(0)", x.list(0), 23);
        c.due("room()", x.room(), 184);
        c.due("word(23, 15)", x.word(23, 15), 6);
        c.due("create(7, 0)", x.create(7, 0), 0);
    }

    static void theLatestSync() {
        Check c = new Check("MOUNTED: the latest sync");
        ZoneShelf x = synced();
        x.append(1, 9);
        x.sync();
        x.append(1, 10);
        x.sync();
        x.append(1, 11);
        x.cut();
        x.mount();
        c.due("object(1, 2)", x.object(1, 2), 5);
        c.due("word(1, 4)", x.word(1, 4), 10);
        x.append(1, 12);
        x.cut();
        x.mount();
        c.due("object(1, 2), mounted again", x.object(1, 2), 5);
        x.append(1, 13);
        x.sync();
        x.cut();
        x.mount();
        c.due("object(1, 2), synced again", x.object(1, 2), 6);
        c.due("word(1, 5)", x.word(1, 5), 13);
    }

    static void manySyncs() {
        Check c = new Check("MOUNTED: the latest of many syncs");
        ZoneShelf x = Shelves.withWordsInAll(200);
        for (int round = 0; round < 60; round++) {
            x.remove(round % 3);
            x.create(500 + round, round % 4);
            x.appendRow(round % 3, 10 * round, 64);
            x.sync();
        }
        x.remove(0);
        x.cut();
        x.mount();
        for (int object = 0; object < 3; object++) {
            int round = 57 + object;
            c.due("object(" + object + ", 0)", x.object(object, 0), 500 + round);
            c.due("object(" + object + ", 1)", x.object(object, 1), round % 4);
            c.due("word(" + object + ", 0)", x.word(object, 0), 10 * round);
            c.due("word(" + object + ", 63)", x.word(object, 63), 10 * round + 63);
        }
        c.due("word(3, 7)", x.word(3, 7), 3007);
        c.due("room()", x.room(), 0);
    }

    static void manySyncsAndTidies() {
        Check c = new Check("MOUNTED: syncs, tidies and mounts one after the other");
        ZoneShelf x = synced();
        for (int round = 0; round < 55; round++) {
            c.due("append(1, " + round + ")", x.append(1, round), true);
            c.due("sync()", x.sync(), true);
            c.due("tidy()", x.tidy(), true);
            x.append(1, -1);
            c.due("cut or tear", round % 2 == 0 ? x.cut() : x.tear(), true);
            c.due("mount()", x.mount(), true);
            c.due("object(1, 2)", x.object(1, 2), 4 + round);
        }
        for (int round = 0; round < 55; round++) {
            c.due("word(1, " + (3 + round) + ")", x.word(1, 3 + round), round);
        }
    }

    static void syncsUpToTheLastCall() {
        Check c = new Check("8: a sync may be called as often as calls are promised");
        ZoneShelf x = synced();
        for (int call = 12; call <= 507; call++) {
            c.due("sync()", x.sync(), true);
        }
        x.remove(1);
        c.due("cut()", x.cut(), true);
        c.due("mount()", x.mount(), true);
        c.due("word(1, 2)", x.word(1, 2), 3);
        c.due("list(0), the 512th call", x.list(0), 4);
    }

    static void powerFailuresUpToTheLastCall() {
        Check c = new Check("9 to 11: the power may fail as often as calls are promised");
        ZoneShelf x = synced();
        for (int round = 0; round < 250; round++) {
            c.due(round % 2 == 0 ? "cut()" : "tear()", round % 2 == 0 ? x.cut() : x.tear(), true);
            c.due("mount()", x.mount(), true);
        }
        c.due("word(1, 2), the 512th call", x.word(1, 2), 3);
    }

    static void tidiesUpToTheLastCall() {
        Check c = new Check("12: a tidy may be called as often as calls are promised");
        ZoneShelf x = synced();
        for (int call = 12; call <= 509; call++) {
            c.due("tidy()", x.tidy(), true);
        }
        x.cut();
        x.mount();
        c.due("word(1, 2), the 512th call", x.word(1, 2), 3);
    }

    static void changesWithASyncEachUpToTheLastCall() {
        Check c = new Check("MOUNTED: an object made and removed again and again");
        ZoneShelf x = synced();
        for (int round = 0; round < 124; round++) {
            c.due("create(900, 0)", x.create(900, 0), 0);
            c.due("sync()", x.sync(), true);
            c.due("remove(0)", x.remove(0), true);
            c.due(round % 2 == 0 ? "sync()" : "tidy()", round % 2 == 0 ? x.sync() : x.tidy(), true);
        }
        c.due("cut()", x.cut(), true);
        c.due("mount()", x.mount(), true);
        c.due("find(900), tidied but not synced without it", x.find(900), 0);
        c.due("word(1, 2)", x.word(1, 2), 3);
        c.due("objects(), the 512th call", x.objects(), 4);
    }

    static void syncOfAnEmptyShelf() {
        Check c = new Check("8: a sync with no objects is one too");
        ZoneShelf x = synced();
        removeAll(x);
        c.due("sync()", x.sync(), true);
        x.create(5, 0);
        x.cut();
        x.mount();
        c.due("all after the mount", Picture.of(x), Picture.of(new ZoneShelf()));
        c.due("sync(), new", new ZoneShelf().sync(), true);
    }

    static void syncOfAFullShelf() {
        Check c = new Check("8: a sync of 24 objects and 200 words");
        ZoneShelf x = Shelves.full();
        c.due("sync()", x.sync(), true);
        x.cut();
        x.mount();
        c.due("all after the mount", Picture.of(x), Picture.of(Shelves.full()));
    }

    static void syncChangesNothing() {
        Check c = new Check("8: a sync changes nothing that can be asked at once");
        for (boolean full : new boolean[] {true, false}) {
            ZoneShelf x = full ? Shelves.full() : Shelves.single();
            x.sync();
            c.due("all that can be asked", Picture.of(x), Picture.of(full ? Shelves.full() : Shelves.single()));
        }
    }

    static void syncTwiceWithoutAChange() {
        Check c = new Check("8: a sync behind a sync");
        isKept(c, "sync()", ZoneShelf::sync);
    }

    static void syncDownIsNone() {
        Check c = new Check("8: false if DOWN, and that is none");
        isLost(c, "a sync while DOWN", x -> {
            x.append(1, 9);
            x.cut();
            c.due("sync()", x.sync(), false);
        });
    }

    static void tearIsNoSync() {
        Check c = new Check("9: the shelf is DOWN, and that was none; false if DOWN");
        ZoneShelf x = synced();
        x.append(1, 9);
        x.create(5, 0);
        c.due("tear()", x.tear(), true);
        c.due("isUp()", x.isUp(), false);
        c.due("tear(), DOWN", x.tear(), false);
        c.due("isUp(), still", x.isUp(), false);
        x.mount();
        c.due("all after the mount", Picture.of(x), Picture.of(synced()));
    }

    static void tearBetweenTwoSyncs() {
        Check c = new Check("9: a tear takes nothing from the syncs about it");
        ZoneShelf x = synced();
        x.append(1, 9);
        x.tear();
        x.mount();
        x.append(1, 10);
        x.sync();
        x.append(1, 11);
        x.tear();
        x.tear();
        x.mount();
        c.due("object(1, 2)", x.object(1, 2), 4);
        c.due("word(1, 3)", x.word(1, 3), 10);
    }

    static void tearOfAFullShelf() {
        Check c = new Check("9: a tear of a full shelf");
        ZoneShelf x = Shelves.full();
        x.sync();
        for (int object = 0; object < 24; object++) {
            x.remove(object);
        }
        x.tear();
        x.mount();
        c.due("all after the mount", Picture.of(x), Picture.of(Shelves.full()));
    }

    static void cutIsNoSync() {
        Check c = new Check("10: DOWN; false if it is");
        ZoneShelf x = synced();
        x.append(1, 9);
        c.due("cut()", x.cut(), true);
        c.due("isUp()", x.isUp(), false);
        c.due("cut(), DOWN", x.cut(), false);
        c.due("isUp(), still", x.isUp(), false);
        x.mount();
        c.due("all after the mount", Picture.of(x), Picture.of(synced()));
        c.due("cut(), new", new ZoneShelf().cut(), true);
    }

    static void mountUp() {
        Check c = new Check("11: false if it is UP");
        Refusal.isFalse(c, "mount(), new", ZoneShelf::new, ZoneShelf::mount);
        Refusal.isFalse(c, "mount()", Shelves::single, ZoneShelf::mount);
        Refusal.isFalse(c, "mount(), emptied", Shelves::emptied, ZoneShelf::mount);
        Refusal.isFalse(c, "mount(), full", Shelves::full, ZoneShelf::mount);
        ZoneShelf x = synced();
        x.tear();
        c.due("mount(), DOWN", x.mount(), true);
        c.due("mount() again", x.mount(), false);
    }

    static void tidyChangesNothing() {
        Check c = new Check("12: nothing that can be asked changes");
        for (int times : new int[] {1, 2, 20}) {
            Refusal.answers(c, times + " tidies, new", ZoneShelf::new, x -> tidies(x, times), times);
            Refusal.answers(c, times + " tidies", Shelves::single, x -> tidies(x, times), times);
            Refusal.answers(c, times + " tidies, not OPEN", Shelves::closed, x -> tidies(x, times), times);
            Refusal.answers(c, times + " tidies, emptied", Shelves::emptied, x -> tidies(x, times), times);
            Refusal.answers(c, times + " tidies, full", Shelves::full, x -> tidies(x, times), times);
            Refusal.answers(c, times + " tidies, synced", MountedTest::synced, x -> tidies(x, times), times);
        }
    }

    private static int tidies(ZoneShelf x, int times) {
        int done = 0;
        for (int i = 0; i < times; i++) {
            done += x.tidy() ? 1 : 0;
        }
        return done;
    }

    static void tidyIsNoSync() {
        Check c = new Check("12: a tidy is no sync");
        isLost(c, "append(1, 9) and a tidy", x -> {
            x.append(1, 9);
            x.remove(4);
            x.tidy();
        });
    }

    static void askingChangesNothing() {
        Check c = new Check("13 to 19: to ask changes nothing");
        Refusal.changesNothing(c, "all questions", Shelves::single, x -> Picture.of(x).length());
        Refusal.changesNothing(c, "all questions", MountedTest::synced, x -> Picture.of(x).length());
        Refusal.changesNothing(c, "all questions", Shelves::emptied, x -> Picture.of(x).length());
    }
}
