/** What the calls that only tell answer, as a text, so that two tables can be compared. */
final class Told {
    static final int PARTS = 4;

    private Told() {
    }

    /** Seasons, columns and rows of small tables; with many of these an object would come to its 512th call. */
    static String state(ColumnSeasons x) {
        StringBuilder told = new StringBuilder();
        columns(x, told, 0, 7);
        rows(x, told);
        return told.toString();
    }

    /** One part of all that there is; each takes at most 260 calls, and leaves the object changed. */
    static String part(ColumnSeasons x, int part) {
        StringBuilder told = new StringBuilder();
        switch (part) {
            case 0: columns(x, told, 0, 3); break;
            case 1: columns(x, told, 4, 7); break;
            case 2: rows(x, told); break;
            default: everythingElse(x, told); break;
        }
        return told.toString();
    }

    private static void columns(ColumnSeasons x, StringBuilder told, int first, int last) {
        int now = x.count(0);
        for (int season = 0; season <= now; season++) {
            told.append("\nseason ").append(season).append(':');
            for (int name = first; name <= last; name++) {
                told.append(' ').append(x.column(season, name, 0)).append('/').append(x.column(season, name, 1));
            }
        }
    }

    private static void rows(ColumnSeasons x, StringBuilder told) {
        int rows = x.count(2);
        for (int row = 0; row < rows; row++) {
            told.append("\nrow of ").append(x.seasonOf(row)).append(':');
            for (int name = 0; name <= 7; name++) {
                told.append(' ').append(x.value(row, name));
            }
        }
    }

    /** The counts, the text, the history and the snapshot; these by what they do. */
    private static void everythingElse(ColumnSeasons x, StringBuilder told) {
        counts(x, told);
        told.append("\nperform ").append(x.perform());
        counts(x, told);
        for (int times = 0; times < 5; times++) {
            told.append("\nundo ").append(x.undo());
            counts(x, told);
        }
        told.append("\nrestore ").append(x.restore());
        counts(x, told);
        told.append("\ntext ").append(x.clearText());
    }

    private static void counts(ColumnSeasons x, StringBuilder told) {
        for (int what = 0; what <= 8; what++) {
            told.append(' ').append(x.count(what));
        }
        for (int name = 0; name <= 7; name++) {
            told.append(' ').append(x.column(x.count(0), name, 1)).append('/').append(x.value(0, name));
        }
    }
}
