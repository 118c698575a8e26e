import java.util.ArrayList;
import java.util.List;
import java.util.Map;
import java.util.TreeMap;

/** A second reading of the document, written apart from the program, for long runs. */
final class ModelShelf {
    private record Item(int name, int hint, List<Integer> words, boolean open) {
    }

    private TreeMap<Integer, Item> items = new TreeMap<>();
    private TreeMap<Integer, Item> atSync = new TreeMap<>();
    private boolean up = true;

    /** Items never change once made, so that a copy of the map is a copy of all. */
    private boolean put(int object, Item item) {
        items.put(object, item);
        return true;
    }

    private Item get(int object) {
        return up ? items.get(object) : null;
    }

    private int total() {
        return items.values().stream().mapToInt(item -> item.words().size()).sum();
    }

    private boolean nameTaken(int name) {
        return items.values().stream().anyMatch(item -> item.name() == name);
    }

    private boolean nameWrongOrTaken(int name) {
        return name < 0 || name > 9999 || nameTaken(name);
    }

    int create(int name, int hint) {
        if (!up || nameWrongOrTaken(name) || hint < 0 || hint > 3 || items.size() == 24) {
            return -1;
        }
        int number = 0;
        while (items.containsKey(number)) {
            number++;
        }
        put(number, new Item(name, hint, List.of(), true));
        return number;
    }

    boolean append(int object, int word) {
        Item item = get(object);
        if (item == null || !item.open() || item.words().size() == 64 || total() == 200) {
            return false;
        }
        List<Integer> words = new ArrayList<>(item.words());
        words.add(word);
        return put(object, new Item(item.name(), item.hint(), words, true));
    }

    boolean appendRow(int object, int word, int many) {
        Item item = get(object);
        if (item == null || !item.open() || many < 1) {
            return false;
        }
        if ((long) item.words().size() + many > 64 || (long) total() + many > 200) {
            return false;
        }
        for (int i = 0; i < many; i++) {
            append(object, word + i);
        }
        return true;
    }

    boolean open(int object, boolean on) {
        Item item = get(object);
        return item != null && put(object, new Item(item.name(), item.hint(), item.words(), on));
    }

    boolean remove(int object) {
        return up && items.remove(object) != null;
    }

    boolean rename(int object, int name) {
        Item item = get(object);
        return item != null && !nameWrongOrTaken(name)
            && put(object, new Item(name, item.hint(), item.words(), item.open()));
    }

    boolean sync() {
        if (up) {
            atSync = new TreeMap<>(items);
        }
        return up;
    }

    boolean tear() {
        boolean was = up;
        up = false;
        return was;
    }

    boolean cut() {
        boolean was = up;
        up = false;
        return was;
    }

    boolean mount() {
        if (up) {
            return false;
        }
        items = new TreeMap<>(atSync);
        up = true;
        return true;
    }

    boolean tidy() {
        return up;
    }

    boolean isUp() {
        return up;
    }

    int objects() {
        return up ? items.size() : 0;
    }

    int room() {
        return up ? 200 - total() : 0;
    }

    int object(int object, int what) {
        Item item = get(object);
        if (item == null || what < 0 || what > 3) {
            return -1;
        }
        return new int[] {item.name(), item.hint(), item.words().size(), item.open() ? 1 : 0}[what];
    }

    int word(int object, int i) {
        Item item = get(object);
        return item == null || i < 0 || i >= item.words().size() ? 0 : item.words().get(i);
    }

    private TreeMap<Integer, Integer> byName() {
        TreeMap<Integer, Integer> names = new TreeMap<>();
        if (up) {
            for (Map.Entry<Integer, Item> entry : items.entrySet()) {
                names.put(entry.getValue().name(), entry.getKey());
            }
        }
        return names;
    }

    int find(int name) {
        return byName().getOrDefault(name, -1);
    }

    int list(int k) {
        List<Integer> numbers = new ArrayList<>(byName().values());
        return k < 0 || k >= numbers.size() ? -1 : numbers.get(k);
    }
}
