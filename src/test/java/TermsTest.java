/** The limits under Terms, and the edges of what can be asked (promises 1 and 13 to 19). */
public final class TermsTest {
    private static final int NONE = -1;
    private static final int MIN = Integer.MIN_VALUE;
    private static final int MAX = Integer.MAX_VALUE;
    private static final int[] NO_NUMBERS = {-1, 24, 25, MIN, MAX};

    public static void main(String[] args) {
        Check.runAll(TermsTest.class);
    }

    static void theConstant() {
        Check c = new Check("the constants: NONE = -1");
        c.due("NONE", ZoneShelf.NONE, -1);
    }

    static void aNewShelf() {
        Check c = new Check("1: no objects, UP");
        ZoneShelf x = new ZoneShelf();
        c.due("isUp()", x.isUp(), true);
        c.due("objects()", x.objects(), 0);
        c.due("room()", x.room(), 200);
        for (int object = -1; object <= 24; object++) {
            for (int what = 0; what < 4; what++) {
                c.due("object(" + object + ", " + what + ")", x.object(object, what), NONE);
            }
            c.due("word(" + object + ", 0)", x.word(object, 0), 0);
            c.due("list(" + object + ")", x.list(object), NONE);
            c.due("find(" + object + ")", x.find(object), NONE);
        }
        c.due("mount()", x.mount(), false);
    }

    static void aNewShelfBesideAFullOne() {
        Check c = new Check("1: each shelf is its own");
        ZoneShelf full = Shelves.full();
        full.sync();
        ZoneShelf x = new ZoneShelf();
        c.due("all that can be asked", Picture.of(x), Picture.of(new ZoneShelf()));
        x.create(7, 3);
        x.appendRow(0, 900, 64);
        x.sync();
        x.cut();
        c.due("all of the full one", Picture.of(full), Picture.of(Shelves.full()));
        c.due("isUp(), the other one is DOWN", full.isUp(), true);
        full.cut();
        full.mount();
        c.due("word(0, 0)", full.word(0, 0), -5);
        c.due("objects()", full.objects(), 24);
    }

    static void numbersAre0To23() {
        Check c = new Check("Terms: numbers 0 .. 23");
        ZoneShelf x = new ZoneShelf();
        for (int number = 0; number < 24; number++) {
            c.due("create(" + (9999 - number) + ", 0)", x.create(9999 - number, 0), number);
        }
        c.due("create(0, 0)", x.create(0, 0), NONE);
        c.due("object(0, 0)", x.object(0, 0), 9999);
        c.due("object(23, 0)", x.object(23, 0), 9976);
        for (int object : NO_NUMBERS) {
            c.due("object(" + object + ", 0)", x.object(object, 0), NONE);
        }
    }

    static void namesAre0To9999() {
        Check c = new Check("Terms: names 0 .. 9999");
        ZoneShelf x = new ZoneShelf();
        c.due("create(0, 0)", x.create(0, 0), 0);
        c.due("create(9999, 0)", x.create(9999, 0), 1);
        c.due("object(0, 0)", x.object(0, 0), 0);
        c.due("object(1, 0)", x.object(1, 0), 9999);
        c.due("create(-1, 0)", x.create(-1, 0), NONE);
        c.due("create(10000, 0)", x.create(10000, 0), NONE);
        c.due("rename(0, 1)", x.rename(0, 1), true);
        c.due("rename(1, 9998)", x.rename(1, 9998), true);
        c.due("rename(0, -1)", x.rename(0, -1), false);
        c.due("rename(1, 10000)", x.rename(1, 10000), false);
        c.due("rename(0, 0)", x.rename(0, 0), true);
        c.due("rename(1, 9999)", x.rename(1, 9999), true);
    }

    /** One after the other on a few shelves, as each has but 512 calls. */
    static void eachNameIsOne() {
        Check c = new Check("Terms: each name 0 .. 9999");
        for (int first = 0; first < 10000; first += 100) {
            ZoneShelf x = new ZoneShelf();
            x.create(first, 0);
            for (int name = first + 1; name < first + 100; name++) {
                c.due("rename(0, " + name + ")", x.rename(0, name), true);
                c.due("find(" + name + ")", x.find(name), 0);
                c.due("object(0, 0)", x.object(0, 0), name);
            }
        }
    }

    static void noTwoNamesAlike() {
        Check c = new Check("Terms: no two alike");
        ZoneShelf x = new ZoneShelf();
        for (int name : new int[] {0, 1, 9998, 9999}) {
            x.create(name, 0);
            c.due("create(" + name + ", 0) again", x.create(name, 0), NONE);
            c.due("create(" + name + ", 3) again", x.create(name, 3), NONE);
        }
        c.due("objects()", x.objects(), 4);
        c.due("rename(0, 9999)", x.rename(0, 9999), false);
        c.due("rename(3, 0)", x.rename(3, 0), false);
    }

    static void hintsAre0To3() {
        Check c = new Check("Terms: hints 0 .. 3");
        ZoneShelf x = new ZoneShelf();
        for (int hint = 0; hint < 4; hint++) {
            c.due("create(" + hint + ", " + hint + ")", x.create(hint, hint), hint);
            c.due("object(" + hint + ", 1)", x.object(hint, 1), hint);
        }
        c.due("create(9, -1)", x.create(9, -1), NONE);
        c.due("create(9, 4)", x.create(9, 4), NONE);
    }

    static void anObjectHasAtMost64Words() {
        Check c = new Check("Terms: at most 64 words");
        ZoneShelf x = Shelves.numbered(2);
        for (int i = 1; i <= 64; i++) {
            c.due("append(0, " + i + ")", x.append(0, i), true);
            c.due("object(0, 2)", x.object(0, 2), i);
        }
        c.due("append(0, 65)", x.append(0, 65), false);
        c.due("object(0, 2)", x.object(0, 2), 64);
        for (int i = 0; i < 64; i++) {
            c.due("word(0, " + i + ")", x.word(0, i), i + 1);
        }
        c.due("word(0, 64)", x.word(0, 64), 0);
        c.due("object(1, 2)", x.object(1, 2), 0);
    }

    static void allObjectsHaveAtMost200Words() {
        Check c = new Check("Terms: at most 200 words in all, one by one");
        ZoneShelf x = Shelves.numbered(24);
        for (int i = 1; i <= 200; i++) {
            c.due("append(" + i % 24 + ", " + i + ")", x.append(i % 24, i), true);
        }
        for (int object = 0; object < 24; object++) {
            c.due("append(" + object + ", 201)", x.append(object, 201), false);
        }
        c.due("room()", x.room(), 0);
        x.remove(0);
        c.due("room()", x.room(), 8);
        c.due("appendRow(1, 1, 9)", x.appendRow(1, 1, 9), false);
        c.due("appendRow(1, 1, 8)", x.appendRow(1, 1, 8), true);
    }

    /** A removal, too, of what a mount brings back counts against the 200. */
    static void theLimitOf200AfterAMount() {
        Check c = new Check("Terms: at most 200 words in all, mounted");
        ZoneShelf x = Shelves.withWordsInAll(200);
        x.sync();
        x.remove(0);
        x.cut();
        x.mount();
        c.due("append(4, 1)", x.append(4, 1), false);
        x.remove(3);
        c.due("appendRow(4, 1, 9)", x.appendRow(4, 1, 9), false);
        c.due("appendRow(4, 1, 8)", x.appendRow(4, 1, 8), true);
        x.tear();
        x.mount();
        c.due("room()", x.room(), 0);
    }

    static void anyIntIsAWord() {
        Check c = new Check("Terms: words");
        int[] words = {0, 1, -1, 9999, 10000, MIN, MIN + 1, MAX - 1, MAX};
        ZoneShelf x = Shelves.numbered(1);
        for (int word : words) {
            c.due("append(0, " + word + ")", x.append(0, word), true);
        }
        x.sync();
        x.cut();
        x.mount();
        for (int i = 0; i < words.length; i++) {
            c.due("word(0, " + i + ")", x.word(0, i), words[i]);
        }
    }

    static void aRowGoesUpBy1() {
        Check c = new Check("4: each next one 1 more than the one before");
        ZoneShelf x = Shelves.numbered(1);
        c.due("appendRow(0, 5, 1)", x.appendRow(0, 5, 1), true);
        c.due("appendRow(0, -2, 4), over 0", x.appendRow(0, -2, 4), true);
        c.due("appendRow(0, MIN, 2)", x.appendRow(0, MIN, 2), true);
        c.due("appendRow(0, MAX - 1, 2), up to the greatest", x.appendRow(0, MAX - 1, 2), true);
        c.due("appendRow(0, MAX, 1)", x.appendRow(0, MAX, 1), true);
        int[] words = {5, -2, -1, 0, 1, MIN, MIN + 1, MAX - 1, MAX, MAX};
        c.due("object(0, 2)", x.object(0, 2), words.length);
        for (int i = 0; i < words.length; i++) {
            c.due("word(0, " + i + ")", x.word(0, i), words[i]);
        }
    }

    /** The document names no end of the ints, so a row goes on as Java's + does. */
    static void aRowPastTheGreatestInt() {
        Check c = new Check("4: 1 more than the greatest int");
        ZoneShelf x = Shelves.numbered(1);
        c.due("appendRow(0, MAX - 1, 4)", x.appendRow(0, MAX - 1, 4), true);
        int[] words = {MAX - 1, MAX, MIN, MIN + 1};
        for (int i = 0; i < words.length; i++) {
            c.due("word(0, " + i + ")", x.word(0, i), words[i]);
        }
    }

    static void aNewObjectGetsTheLeastFreeNumber() {
        Check c = new Check("Terms: the least number that is free");
        ZoneShelf x = Shelves.full();
        int[] gone = {23, 7, 0, 12, 1};
        for (int object : gone) {
            x.remove(object);
        }
        int[] due = {0, 1, 7, 12, 23, NONE};
        for (int i = 0; i < due.length; i++) {
            c.due("create(" + i + ", 0)", x.create(i, 0), due[i]);
        }
    }

    static void aRefusedCreateTakesNoNumber() {
        Check c = new Check("Terms: the least number that is free, after refusals");
        ZoneShelf x = new ZoneShelf();
        c.due("create(-1, 0)", x.create(-1, 0), NONE);
        c.due("create(5, 4)", x.create(5, 4), NONE);
        c.due("create(5, 0)", x.create(5, 0), 0);
        c.due("create(5, 0) again", x.create(5, 0), NONE);
        c.due("create(6, 0)", x.create(6, 0), 1);
    }

    static void aNewObjectIsOpenAndHasNoWords() {
        Check c = new Check("Terms: a new one is OPEN");
        for (int object = 0; object < 24; object++) {
            ZoneShelf x = Shelves.full();
            x.open(object, false);
            x.remove(object);
            x.create(7, 3);
            c.due("object(" + object + ", 3)", x.object(object, 3), 1);
            c.due("object(" + object + ", 2)", x.object(object, 2), 0);
            c.due("object(" + object + ", 1)", x.object(object, 1), 3);
            c.due("word(" + object + ", 0)", x.word(object, 0), 0);
            c.due("append(" + object + ", 9)", x.append(object, 9), true);
            c.due("word(" + object + ", 0)", x.word(object, 0), 9);
            c.due("word(" + object + ", 1), an old one's", x.word(object, 1), 0);
        }
    }

    static void upOrDown() {
        Check c = new Check("13: whether the shelf is UP");
        ZoneShelf x = Shelves.full();
        c.due("isUp()", x.isUp(), true);
        x.sync();
        c.due("isUp(), synced", x.isUp(), true);
        x.tidy();
        c.due("isUp(), tidied", x.isUp(), true);
        x.cut();
        c.due("isUp(), cut", x.isUp(), false);
        x.mount();
        c.due("isUp(), mounted", x.isUp(), true);
        x.tear();
        c.due("isUp(), torn", x.isUp(), false);
        x.mount();
        x.mount();
        c.due("isUp(), mounted", x.isUp(), true);
    }

    static void objectsFrom0To24() {
        Check c = new Check("14: how many objects there are, 0 .. 24");
        ZoneShelf x = new ZoneShelf();
        for (int many = 0; many < 24; many++) {
            c.due("objects()", x.objects(), many);
            x.create(many, 0);
        }
        c.due("objects()", x.objects(), 24);
        x.create(24, 0);
        c.due("objects(), one refused", x.objects(), 24);
        for (int many = 23; many >= 0; many--) {
            x.remove(many);
            c.due("objects()", x.objects(), many);
        }
        x.remove(0);
        c.due("objects(), one refused", x.objects(), 0);
    }

    static void roomFrom200To0() {
        Check c = new Check("15: how many words can still be appended, 200 .. 0");
        ZoneShelf x = Shelves.numbered(5);
        for (int words = 0; words < 200; words++) {
            c.due("room()", x.room(), 200 - words);
            x.append(words / 64, 1);
        }
        c.due("room()", x.room(), 0);
        x.append(4, 1);
        x.appendRow(4, 1, 2);
        c.due("room(), two refused", x.room(), 0);
        x.remove(4);
        c.due("room(), one without words removed", x.room(), 0);
        x.remove(3);
        c.due("room(), one with 8 removed", x.room(), 8);
        x.remove(0);
        c.due("room(), one with 64 removed", x.room(), 72);
    }

    /** "To objects in all": the 200 are meant, whatever the objects of the moment could take. */
    static void roomIsOfTheShelf() {
        Check c = new Check("15: to objects in all");
        c.due("room(), no objects", Shelves.emptied().room(), 200);
        c.due("room(), one object", Shelves.numbered(1).room(), 200);
        c.due("room(), none OPEN", Shelves.closed().room(), 198);
        ZoneShelf x = Shelves.numbered(1);
        x.appendRow(0, 1, 64);
        c.due("room(), the only object full", x.room(), 136);
    }

    static void objectAsksFourThings() {
        Check c = new Check("16: 0 name, 1 hint, 2 how many words, 3 whether it is OPEN");
        ZoneShelf x = Shelves.full();
        for (int object = 0; object < 24; object++) {
            c.due("object(" + object + ", 0)", x.object(object, 0), 100 + object);
            c.due("object(" + object + ", 1)", x.object(object, 1), object % 4);
            c.due("object(" + object + ", 2)", x.object(object, 2), object == 23 ? 16 : 8);
            c.due("object(" + object + ", 3)", x.object(object, 3), object % 3 == 0 ? 0 : 1);
        }
    }

    static void objectOfNoneSuch() {
        Check c = new Check("16: NONE if there is none such");
        for (int what = 0; what < 4; what++) {
            for (int object : NO_NUMBERS) {
                c.due("object(" + object + ", " + what + "), full", Shelves.full().object(object, what), NONE);
            }
            c.due("object(1, " + what + "), not made", Shelves.single().object(1, what), NONE);
            c.due("object(23, " + what + "), not made", Shelves.single().object(23, what), NONE);
            c.due("object(0, " + what + "), removed", Shelves.emptied().object(0, what), NONE);
        }
    }

    static void objectWithAnotherWhat() {
        Check c = new Check("16: NONE for another what");
        for (int what : new int[] {-1, 4, 5, 24, MIN, MAX}) {
            c.due("object(0, " + what + ")", Shelves.single().object(0, what), NONE);
            c.due("object(23, " + what + ")", Shelves.full().object(23, what), NONE);
        }
    }

    static void wordAtTheEndsOfARow() {
        Check c = new Check("17: an object's i-th word; 0 if there is none");
        for (int length : new int[] {1, 2, 63, 64}) {
            ZoneShelf x = Shelves.withRow(length);
            c.due("word(0, 0) of " + length, x.word(0, 0), 1);
            c.due("word(0, last) of " + length, x.word(0, length - 1), length);
            for (int i : new int[] {-1, length, 64, 65, 66, 67, MIN, MAX}) {
                c.due("word(0, " + i + ") of " + length, x.word(0, i), 0);
            }
            c.due("word(1, 0)", x.word(1, 0), 70);
            c.due("word(1, 2)", x.word(1, 2), 72);
            for (int i : new int[] {-64, -63, -2, -1, 3, MIN, MAX}) {
                c.due("word(1, " + i + ")", x.word(1, i), 0);
            }
        }
        c.due("word(0, 0) of an empty row", Shelves.numbered(1).word(0, 0), 0);
    }

    static void wordOfNoneSuch() {
        Check c = new Check("17: 0 if there is none, of no object");
        for (int object : NO_NUMBERS) {
            c.due("word(" + object + ", 0), full", Shelves.full().word(object, 0), 0);
            c.due("word(" + object + ", 64), full", Shelves.full().word(object, 64), 0);
            c.due("word(" + object + ", -64), full", Shelves.full().word(object, -64), 0);
        }
        c.due("word(0, 0), removed", Shelves.emptied().word(0, 0), 0);
        c.due("word(1, 0), not made", Shelves.single().word(1, 0), 0);
        c.due("word(0, 0), not OPEN", Shelves.closed().word(0, 0), 10);
        c.due("word(23, 15), full", Shelves.full().word(23, 15), 6);
    }

    static void findAName() {
        Check c = new Check("18: the object with a name; NONE");
        ZoneShelf x = Shelves.full();
        for (int object = 0; object < 24; object++) {
            c.due("find(" + (100 + object) + ")", x.find(100 + object), object);
        }
        c.due("find(99)", x.find(99), NONE);
        c.due("find(124)", x.find(124), NONE);
        x.rename(0, 0);
        x.rename(23, 9999);
        c.due("find(0)", x.find(0), 0);
        c.due("find(9999)", x.find(9999), 23);
        c.due("find(100), renamed", x.find(100), NONE);
        x.remove(23);
        c.due("find(9999), removed", x.find(9999), NONE);
    }

    static void findNoSuchName() {
        Check c = new Check("18: NONE, of no name");
        for (int name : new int[] {-2, -1, 10000, 10100, MIN, MAX}) {
            c.due("find(" + name + "), new", new ZoneShelf().find(name), NONE);
            c.due("find(" + name + "), emptied", Shelves.emptied().find(name), NONE);
            c.due("find(" + name + ")", Shelves.single().find(name), NONE);
            c.due("find(" + name + "), full", Shelves.full().find(name), NONE);
        }
    }

    static void listByName() {
        Check c = new Check("19: the k-th object (from 0) by their names; NONE");
        ZoneShelf x = new ZoneShelf();
        for (int i = 0; i < 24; i++) {
            x.create(i * 7 % 24 * 400 + i, 0);
        }
        for (int k = 0; k < 24; k++) {
            // 7 times 7 is 1 more than twice 24: the object with 7i = k is i = 7k
            c.due("list(" + k + ")", x.list(k), k * 7 % 24);
        }
        c.due("list(24), full", x.list(24), NONE);
        c.due("list(-1), full", x.list(-1), NONE);
        x.rename(0, 9999);
        c.due("list(23), renamed", x.list(23), 0);
        c.due("list(0), renamed", x.list(0), 7);
        x.remove(7);
        c.due("list(0), removed", x.list(0), 14);
        c.due("list(22), removed", x.list(22), 0);
        c.due("list(23), removed", x.list(23), NONE);
    }

    static void listPastTheEnds() {
        Check c = new Check("19: NONE past the ends");
        for (int k : new int[] {-1, 1, 23, 24, MIN, MAX}) {
            c.due("list(" + k + "), one", Shelves.single().list(k), NONE);
        }
        c.due("list(0), one", Shelves.single().list(0), 0);
        for (int k : new int[] {-1, 0, 1, 23, 24, MIN, MAX}) {
            c.due("list(" + k + "), none", Shelves.emptied().list(k), NONE);
            c.due("list(" + k + "), new", new ZoneShelf().list(k), NONE);
        }
        for (int k : new int[] {-1, 24, 25, MIN, MAX}) {
            c.due("list(" + k + "), 24", Shelves.full().list(k), NONE);
        }
        c.due("list(23), 24", Shelves.full().list(23), 23);
    }
}
