import java.util.Random;

/** Runs of 512 calls, the document's limit for one object, each call answered by a model too. */
public final class LongRunsTest {
    private static final int RUNS = 3000;
    private static final int CALLS = 512;
    private static final int[] ODD = {-1, 24, 64, 65, 200, 10000, Integer.MIN_VALUE, Integer.MAX_VALUE};

    private final Random random;
    private final Check check;
    private final ZoneShelf shelf = new ZoneShelf();
    private final ModelShelf model = new ModelShelf();
    /** Some runs have few objects with many words, others many objects, so that both limits are met. */
    private final int names;
    private final int longestRow;
    private final int removals;
    /** One change in so many is of the power, a sync or a tidy. */
    private final int powerEvery;

    private LongRunsTest(int seed) {
        random = new Random(seed);
        check = new Check("run with seed " + seed);
        names = seed % 2 == 0 ? 12 : 60;
        longestRow = seed % 3 == 0 ? 70 : 12;
        removals = seed % 5 == 0 ? 1 : 4;
        powerEvery = seed % 7 == 0 ? 2 : 6;
    }

    public static void main(String[] args) {
        boolean asDue = true;
        for (int seed = 1; seed <= RUNS && asDue; seed++) {
            LongRunsTest run = new LongRunsTest(seed);
            for (int call = 0; call < CALLS && asDue; call++) {
                run.step();
                asDue = run.check.wrong() == 0;
            }
        }
        Check.end();
    }

    private int odd() {
        return ODD[random.nextInt(ODD.length)];
    }

    private int upTo(int bound) {
        return random.nextInt(25) == 0 ? odd() : random.nextInt(bound);
    }

    private int name() {
        return random.nextInt(8) == 0 ? 9999 - random.nextInt(3) : upTo(names);
    }

    /** Mostly one that there is: the model knows, and is not bound to 512 calls. */
    private int object() {
        int there = model.objects();
        return there > 0 && random.nextInt(4) != 0 ? model.list(random.nextInt(there)) : upTo(24);
    }

    private int wordOf(int object) {
        int length = model.object(object, 2);
        return length > 0 && random.nextInt(4) != 0 ? random.nextInt(length) : upTo(64);
    }

    private void step() {
        if (!model.isUp() && random.nextInt(3) == 0) {
            check.due("mount()", shelf.mount(), model.mount());
            return;
        }
        if (random.nextInt(2) == 0) {
            ask();
        } else if (random.nextInt(powerEvery) == 0) {
            power();
        } else {
            change();
        }
    }

    private void change() {
        int object = object();
        int name = name();
        int word = random.nextInt(9) == 0 ? odd() : random.nextInt();
        int kind = random.nextInt(12 + removals);
        if (kind < 4) {
            int hint = upTo(4);
            check.due("create(" + name + ", " + hint + ")", shelf.create(name, hint), model.create(name, hint));
        } else if (kind < 6) {
            check.due("append(" + object + ", " + word + ")", shelf.append(object, word), model.append(object, word));
        } else if (kind < 9) {
            int many = upTo(longestRow);
            check.due("appendRow(" + object + ", " + word + ", " + many + ")",
                shelf.appendRow(object, word, many), model.appendRow(object, word, many));
        } else if (kind < 10) {
            boolean on = random.nextInt(3) != 0;
            check.due("open(" + object + ", " + on + ")", shelf.open(object, on), model.open(object, on));
        } else if (kind < 12) {
            check.due("rename(" + object + ", " + name + ")", shelf.rename(object, name), model.rename(object, name));
        } else {
            check.due("remove(" + object + ")", shelf.remove(object), model.remove(object));
        }
    }

    private void power() {
        switch (random.nextInt(8)) {
            case 0 -> check.due("tear()", shelf.tear(), model.tear());
            case 1 -> check.due("cut()", shelf.cut(), model.cut());
            case 2 -> check.due("mount()", shelf.mount(), model.mount());
            case 3, 4 -> check.due("tidy()", shelf.tidy(), model.tidy());
            default -> check.due("sync()", shelf.sync(), model.sync());
        }
    }

    private void ask() {
        int object = object();
        switch (random.nextInt(7)) {
            case 0 -> check.due("isUp()", shelf.isUp(), model.isUp());
            case 1 -> check.due("objects()", shelf.objects(), model.objects());
            case 2 -> check.due("room()", shelf.room(), model.room());
            case 3 -> {
                int what = upTo(4);
                check.due("object(" + object + ", " + what + ")", shelf.object(object, what), model.object(object, what));
            }
            case 4 -> {
                int i = wordOf(object);
                check.due("word(" + object + ", " + i + ")", shelf.word(object, i), model.word(object, i));
            }
            case 5 -> {
                int name = name();
                check.due("find(" + name + ")", shelf.find(name), model.find(name));
            }
            default -> {
                int k = upTo(random.nextBoolean() ? 6 : 24);
                check.due("list(" + k + ")", shelf.list(k), model.list(k));
            }
        }
    }
}
