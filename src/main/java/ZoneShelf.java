import java.util.Arrays;

/**
 * A shelf of objects whose power may fail: what was there at the latest sync is there again.
 *
 * The document leaves free how the state is held, and nothing that can be asked tells zones and
 * blocks apart. So the drive is kept as what it amounts to: the contents at the latest sync.
 */
public final class ZoneShelf {
    public static final int NONE = -1;

    private static final int MOST_OBJECTS = 24;
    private static final int MOST_WORDS_EACH = 64;
    private static final int MOST_WORDS_IN_ALL = 200;
    private static final int LAST_NAME = 9999;
    private static final int LAST_HINT = 3;

    private final Contents current;
    private final Contents synced;
    private boolean up;

    public ZoneShelf() {
        current = new Contents();
        synced = new Contents();
        up = true;
    }

    public int create(int name, int hint) {
        if (!up || !isFreeName(name) || !isHint(hint)) {
            return NONE;
        }
        int number = current.leastFreeNumber();
        if (number != NONE) {
            current.place(number, name, hint);
        }
        return number;
    }

    public boolean append(int object, int word) {
        return appendRow(object, word, 1);
    }

    public boolean appendRow(int object, int word, int many) {
        if (!isThere(object) || !current.opened[object] || many < 1 || many > roomIn(object)) {
            return false;
        }
        current.addRow(object, word, many);
        return true;
    }

    public boolean open(int object, boolean on) {
        if (!isThere(object)) {
            return false;
        }
        current.opened[object] = on;
        return true;
    }

    public boolean remove(int object) {
        if (!isThere(object)) {
            return false;
        }
        current.takeAway(object);
        return true;
    }

    public boolean rename(int object, int name) {
        if (!isThere(object) || !isFreeName(name)) {
            return false;
        }
        current.names[object] = name;
        return true;
    }

    public boolean sync() {
        if (!up) {
            return false;
        }
        synced.copyFrom(current);
        return true;
    }

    /** A sync without its last block does not count, so nothing of it is left but the power cut. */
    public boolean tear() {
        return cut();
    }

    public boolean cut() {
        if (!up) {
            return false;
        }
        up = false;
        return true;
    }

    public boolean mount() {
        if (up) {
            return false;
        }
        current.copyFrom(synced);
        up = true;
        return true;
    }

    /** There are no zones to move out of, and nothing that can be asked may change. */
    public boolean tidy() {
        return up;
    }

    public boolean isUp() {
        return up;
    }

    public int objects() {
        return up ? current.countObjects() : 0;
    }

    public int room() {
        return up ? MOST_WORDS_IN_ALL - current.countWords() : 0;
    }

    public int object(int object, int what) {
        if (!isThere(object)) {
            return NONE;
        }
        switch (what) {
            case 0:
                return current.names[object];
            case 1:
                return current.hints[object];
            case 2:
                return current.lengths[object];
            case 3:
                return current.opened[object] ? 1 : 0;
            default:
                return NONE;
        }
    }

    public int word(int object, int i) {
        if (!isThere(object) || i < 0 || i >= current.lengths[object]) {
            return 0;
        }
        return current.words[object * MOST_WORDS_EACH + i];
    }

    public int find(int name) {
        return up && isName(name) ? current.numberOf(name) : NONE;
    }

    public int list(int k) {
        return up ? current.numberAtRank(k) : NONE;
    }

    private boolean isThere(int object) {
        return up && object >= 0 && object < MOST_OBJECTS && current.isTaken(object);
    }

    private boolean isFreeName(int name) {
        return isName(name) && current.numberOf(name) == NONE;
    }

    private int roomIn(int object) {
        return Math.min(MOST_WORDS_EACH - current.lengths[object], MOST_WORDS_IN_ALL - current.countWords());
    }

    private static boolean isName(int name) {
        return name >= 0 && name <= LAST_NAME;
    }

    private static boolean isHint(int hint) {
        return hint >= 0 && hint <= LAST_HINT;
    }

    /**
     * All objects at one time. Its methods trust their arguments: the shelf looks at them first.
     * A number without an object has the name NONE and no words.
     */
    private static final class Contents {
        private final int[] names;
        private final int[] hints;
        private final int[] lengths;
        private final boolean[] opened;
        /** Each object has a row of its own, so that a removal moves no other object's words. */
        private final int[] words;

        private Contents() {
            names = new int[MOST_OBJECTS];
            hints = new int[MOST_OBJECTS];
            lengths = new int[MOST_OBJECTS];
            opened = new boolean[MOST_OBJECTS];
            words = new int[MOST_OBJECTS * MOST_WORDS_EACH];
            Arrays.fill(names, NONE);
        }

        private boolean isTaken(int number) {
            return names[number] != NONE;
        }

        private int leastFreeNumber() {
            for (int number = 0; number < MOST_OBJECTS; number++) {
                if (!isTaken(number)) {
                    return number;
                }
            }
            return NONE;
        }

        private int numberOf(int name) {
            for (int number = 0; number < MOST_OBJECTS; number++) {
                if (names[number] == name) {
                    return number;
                }
            }
            return NONE;
        }

        private int numberAtRank(int rank) {
            for (int number = 0; number < MOST_OBJECTS; number++) {
                if (isTaken(number) && countNamesBelow(names[number]) == rank) {
                    return number;
                }
            }
            return NONE;
        }

        private int countNamesBelow(int name) {
            int count = 0;
            for (int number = 0; number < MOST_OBJECTS; number++) {
                if (isTaken(number) && names[number] < name) {
                    count++;
                }
            }
            return count;
        }

        private int countObjects() {
            int count = 0;
            for (int number = 0; number < MOST_OBJECTS; number++) {
                if (isTaken(number)) {
                    count++;
                }
            }
            return count;
        }

        private int countWords() {
            int count = 0;
            for (int number = 0; number < MOST_OBJECTS; number++) {
                count += lengths[number];
            }
            return count;
        }

        private void place(int number, int name, int hint) {
            names[number] = name;
            hints[number] = hint;
            opened[number] = true;
        }

        private void takeAway(int number) {
            names[number] = NONE;
            lengths[number] = 0;
        }

        private void addRow(int number, int first, int many) {
            int start = number * MOST_WORDS_EACH + lengths[number];
            for (int i = 0; i < many; i++) {
                words[start + i] = first + i;
            }
            lengths[number] += many;
        }

        private void copyFrom(Contents other) {
            for (int number = 0; number < MOST_OBJECTS; number++) {
                names[number] = other.names[number];
                hints[number] = other.hints[number];
                lengths[number] = other.lengths[number];
                opened[number] = other.opened[number];
            }
            System.arraycopy(other.words, 0, words, 0, words.length);
        }
    }
}
