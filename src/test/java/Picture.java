/** All that can be asked of a shelf, as one text, so that two states can be compared whole. */
final class Picture {
    private Picture() {
    }

    static String of(ZoneShelf x) {
        StringBuilder text = new StringBuilder();
        text.append("up ").append(x.isUp()).append(" objects ").append(x.objects());
        text.append(" room ").append(x.room()).append(" by name");
        for (int k = -1; k <= 24; k++) {
            text.append(' ').append(x.list(k));
        }
        for (int object = 0; object < 24; object++) {
            text.append("\n").append(object).append(':');
            for (int what = 0; what < 4; what++) {
                text.append(' ').append(x.object(object, what));
            }
            text.append(" found ").append(x.find(x.object(object, 0))).append(" words");
            for (int i = 0; i <= 64; i++) {
                text.append(' ').append(x.word(object, i));
            }
        }
        return text.toString();
    }
}
