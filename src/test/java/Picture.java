/**
 * All that can be asked of a shelf, as one text, so that two states can be compared whole.
 * It asks only what tells something: of one object no more than 512 calls are promised.
 */
final class Picture {
    private Picture() {
    }

    static String of(ZoneShelf x) {
        StringBuilder text = new StringBuilder();
        int objects = x.objects();
        text.append("up ").append(x.isUp()).append(" objects ").append(objects);
        text.append(" room ").append(x.room()).append(" by name");
        for (int k = 0; k <= objects; k++) {
            text.append(' ').append(x.list(k));
        }
        for (int object = 0; object < 24; object++) {
            int name = x.object(object, 0);
            if (name != ZoneShelf.NONE) {
                text.append("\n").append(object).append(": name ").append(name);
                addObject(text, x, object, name);
            }
        }
        return text.toString();
    }

    private static void addObject(StringBuilder text, ZoneShelf x, int object, int name) {
        int length = x.object(object, 2);
        text.append(" found ").append(x.find(name)).append(" hint ").append(x.object(object, 1));
        text.append(" open ").append(x.object(object, 3)).append(" words ").append(length).append(" are");
        for (int i = 0; i <= length; i++) {
            text.append(' ').append(x.word(object, i));
        }
    }
}
