/**
 * The shelves that tests begin with. Each is made anew, as of one object no more than 512 calls are
 * promised. At the latest sync there was something else than there is, so that a call that syncs,
 * or loses a sync, is seen after a mount.
 */
final class Shelves {
    private Shelves() {
    }

    /** Object 0 alone: name 5, hint 1, words 10 and 11, OPEN. */
    static ZoneShelf single() {
        ZoneShelf x = new ZoneShelf();
        x.create(5, 1);
        x.append(0, 10);
        x.sync();
        x.append(0, 11);
        return x;
    }

    /** The shelf of single(), but its object is not OPEN. */
    static ZoneShelf closed() {
        ZoneShelf x = single();
        x.open(0, false);
        return x;
    }

    /** No object any more; the one of single() was there at the sync. */
    static ZoneShelf emptied() {
        ZoneShelf x = single();
        x.remove(0);
        return x;
    }

    /** Objects 0 .. many - 1 with the names 100, 101, and so on, the hints 0 .. 3 in turn, no words. */
    static ZoneShelf numbered(int many) {
        ZoneShelf x = new ZoneShelf();
        for (int i = 0; i < many; i++) {
            if (i == many - 1) {
                x.sync();
            }
            x.create(100 + i, i % 4);
        }
        return x;
    }

    /** Object 0 with so many words, 1 and on, and behind it object 1 with the words 70, 71, 72. */
    static ZoneShelf withRow(int length) {
        ZoneShelf x = numbered(2);
        x.appendRow(1, 70, 3);
        x.appendRow(0, 1, length - 1);
        x.sync();
        x.append(0, length);
        return x;
    }

    /** 193 .. 200 words: objects 0 to 2 have 64 each, 3 the rest, 4 none. */
    static ZoneShelf withWordsInAll(int words) {
        ZoneShelf x = numbered(5);
        for (int object = 0; object < 3; object++) {
            x.appendRow(object, 1000 * object, 64);
        }
        x.sync();
        x.appendRow(3, 3000, words - 192);
        return x;
    }

    /** 24 objects with 200 words: 8 each, and 8 more for the last; every third is not OPEN. */
    static ZoneShelf full() {
        ZoneShelf x = numbered(24);
        for (int object = 0; object < 24; object++) {
            x.appendRow(object, 1000 * object - 5, 8);
            x.open(object, object % 3 != 0);
        }
        x.sync();
        x.appendRow(23, -1, 8);
        return x;
    }
}
