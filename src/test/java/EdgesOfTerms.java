/** The boundaries that the document's terms name: columns and seasons, rows, casts, reading, views. */
public final class EdgesOfTerms extends TestBase {
    // The kind that a value has, the value, the kind that it is cast to, what it is then, and how it came:
    // 0 as it is, 1 cast without a loss, 2 cast with one.
    private static final int[][] CASTS = {
        {NUMBER, -9999, FLAG, 1, 2}, {NUMBER, -1, FLAG, 1, 2}, {NUMBER, 0, FLAG, 0, 1}, {NUMBER, 1, FLAG, 1, 1},
        {NUMBER, 2, FLAG, 1, 2}, {NUMBER, 9, FLAG, 1, 2}, {NUMBER, 9999, FLAG, 1, 2},
        {NUMBER, -9999, DIGIT, 0, 2}, {NUMBER, -1, DIGIT, 0, 2}, {NUMBER, 0, DIGIT, 0, 1}, {NUMBER, 1, DIGIT, 1, 1},
        {NUMBER, 8, DIGIT, 8, 1}, {NUMBER, 9, DIGIT, 9, 1}, {NUMBER, 10, DIGIT, 9, 2}, {NUMBER, 11, DIGIT, 9, 2},
        {NUMBER, 9999, DIGIT, 9, 2},
        {NUMBER, -9999, NUMBER, -9999, 0}, {NUMBER, -1, NUMBER, -1, 0}, {NUMBER, 0, NUMBER, 0, 0},
        {NUMBER, 9999, NUMBER, 9999, 0},
        {DIGIT, 0, FLAG, 0, 1}, {DIGIT, 1, FLAG, 1, 1}, {DIGIT, 2, FLAG, 1, 2}, {DIGIT, 9, FLAG, 1, 2},
        {DIGIT, 0, DIGIT, 0, 0}, {DIGIT, 9, DIGIT, 9, 0}, {DIGIT, 0, NUMBER, 0, 1}, {DIGIT, 9, NUMBER, 9, 1},
        {FLAG, 0, FLAG, 0, 0}, {FLAG, 1, FLAG, 1, 0}, {FLAG, 0, DIGIT, 0, 1}, {FLAG, 1, DIGIT, 1, 1},
        {FLAG, 0, NUMBER, 0, 1}, {FLAG, 1, NUMBER, 1, 1}};

    public static void main(String[] args) {
        names();
        kinds();
        defaultsOfAKind();
        atMostOneOfEachName();
        seasonZero();
        changesBeginSeasons();
        thirtySeasons();
        thirtySeasonsAfterForgetting();
        twentyFourRows();
        numbersBehindARemovedRow();
        valuesAtFirst();
        aPlaceThatIsUsedAgain();
        rowsKeepTheirDress();
        castsOfValuesThatAreRead();
        castsOfValuesThatAreMadeOver();
        castsOfDefaults();
        ownValueOrDefault();
        columnsThatComeAgain();
        madeOverAsTheyAreRead();
        columnsOfAllRows();
        widestKinds();
        valuesCastToTheWidest();
        viewsOverNoRows();
        CHECKS.end();
    }

    // ---- columns, seasons

    private static void names() {
        topic("A column has a name (0 to 7)");
        ColumnSeasons x = new ColumnSeasons();
        for (int name = 0; name <= 7; name++) {
            due("add(" + name + ", 1, " + name + ")", x.add(name, DIGIT, name), name + 1);
        }
        due("season(8, 0)", x.season(8, 0), 8);
        due("season(8, 1)", x.season(8, 1), 255);
        for (int name = 0; name <= 7; name++) {
            due("default of " + name, x.column(8, name, 1), name);
        }
        refusedOutside("add() with a name", 0, 7, UNKNOWN, name -> x.add(name, FLAG, 0));
        refusedOutside("drop()", 0, 7, UNKNOWN, x::drop);
        refusedOutside("kind() with a name", 0, 7, UNKNOWN, name -> x.kind(name, FLAG));
        due("season(8, 1)", x.season(8, 1), 255);
        due("count(0)", x.count(0), 8);
        ColumnSeasons last = new ColumnSeasons();
        due("add(7, 0, 0)", last.add(7, FLAG, 0), 1);
        due("season(1, 1)", last.season(1, 1), 128);
        due("kind(7, 1)", last.kind(7, DIGIT), 2);
        due("drop(7)", last.drop(7), 3);
        due("season(3, 1)", last.season(3, 1), 0);
    }

    private static void kinds() {
        topic("a kind: 0 a flag, 1 a digit, 2 a number");
        ColumnSeasons x = new ColumnSeasons();
        refusedOutside("add() with a kind", 0, 2, BAD, kind -> x.add(0, kind, 0));
        due("count(0)", x.count(0), 0);
        for (int kind = 0; kind <= 2; kind++) {
            due("add(" + kind + ", " + kind + ", 0)", x.add(kind, kind, 0), kind + 1);
            due("column(.., 0)", x.column(kind + 1, kind, 0), kind);
        }
        refusedOutside("kind() with a kind", 0, 2, BAD, kind -> x.kind(1, kind));
        due("count(0)", x.count(0), 3);
        due("kind(1, 0)", x.kind(1, 0), 4);
        due("column(4, 1, 0)", x.column(4, 1, 0), FLAG);
        due("kind(1, 2)", x.kind(1, 2), 5);
        due("column(5, 1, 0)", x.column(5, 1, 0), NUMBER);
    }

    private static void defaultsOfAKind() {
        topic("a flag (0 or 1), a digit (0 to 9), a number (-9999 to 9999), and a default of its kind");
        for (int kind = FLAG; kind <= NUMBER; kind++) {
            int its = kind;
            int least = LEAST_OF_KIND[kind];
            int greatest = GREATEST_OF_KIND[kind];
            ColumnSeasons refuses = new ColumnSeasons();
            refusedOutside("add() with a default of kind " + kind, least, greatest, BAD,
                standard -> refuses.add(0, its, standard));
            due("count(0)", refuses.count(0), 0);
            for (int standard : new int[] {least, Math.min(least + 1, greatest), 0, greatest - 1, greatest}) {
                ColumnSeasons x = new ColumnSeasons();
                due("add(3, " + kind + ", " + standard + ")", x.add(3, kind, standard), 1);
                due("column(1, 3, 1)", x.column(1, 3, 1), standard);
            }
        }
    }

    private static void atMostOneOfEachName() {
        topic("a set of columns, at most one of each name");
        for (int name = 0; name <= 7; name++) {
            ColumnSeasons x = new ColumnSeasons();
            due("add(" + name + ", 1, 5)", x.add(name, DIGIT, 5), 1);
            due("again", x.add(name, DIGIT, 5), NOT_POSSIBLE);
            due("of another kind", x.add(name, FLAG, 0), NOT_POSSIBLE);
            due("another name", x.add(7 - name, NUMBER, 7), 2);
            due("again", x.add(name, NUMBER, 6), NOT_POSSIBLE);
            due("season(2, 0)", x.season(2, 0), 2);
            due("column(2, .., 1)", x.column(2, name, 1), 5);
            x.drop(name);
            due("behind its drop", x.add(name, FLAG, 1), 4);
            due("and once more", x.add(name, FLAG, 1), NOT_POSSIBLE);
        }
    }

    private static void seasonZero() {
        topic("Seasons are numbered from 0; the season 0 has no columns");
        ColumnSeasons x = new ColumnSeasons();
        for (int changes = 0; changes <= 2; changes++) {
            for (int name = 0; name <= 7; name++) {
                due("column(0, " + name + ", 0)", x.column(0, name, 0), NONE);
                due("column(0, " + name + ", 1)", x.column(0, name, 1), NONE);
            }
            due("season(0, 0)", x.season(0, 0), 0);
            due("season(0, 1)", x.season(0, 1), 0);
            due("season(-1, 0)", x.season(-1, 0), UNKNOWN);
            due("season(" + changes + ", 0)", x.season(changes, 0), changes);
            due("season(" + (changes + 1) + ", 0)", x.season(changes + 1, 0), UNKNOWN);
            x.add(changes, FLAG, 1);
        }
        x.forget();
        due("the first season that is kept", x.season(0, 1), 7);
        due("the one behind it", x.season(1, 0), UNKNOWN);
    }

    private static void changesBeginSeasons() {
        topic("Each change of columns begins a new season (the latest one is that of now)");
        ColumnSeasons x = new ColumnSeasons();
        due("add()", x.add(0, DIGIT, 1), 1);
        due("count(0)", x.count(0), 1);
        due("kind()", x.kind(0, NUMBER), 2);
        due("count(0)", x.count(0), 2);
        due("kind() of the same kind", x.kind(0, NUMBER), NONE);
        due("count(0)", x.count(0), 2);
        due("add() of a column that is there", x.add(0, FLAG, 0), NOT_POSSIBLE);
        due("drop() of none", x.drop(1), UNKNOWN);
        due("count(0)", x.count(0), 2);
        due("drop()", x.drop(0), 3);
        due("count(0)", x.count(0), 3);
        due("the same column again", x.add(0, NUMBER, 1), 4);
        x.row();
        x.set(0, 0, 9);
        x.makeOver(0, 0);
        x.remove(0);
        x.keep();
        due("no change of columns", x.count(0), 4);
        due("three changes by a text", perform(x, "add 1 flag;kind 1 digit;drop 1"), 3);
        due("count(0)", x.count(0), 7);
        due("none by a text", perform(x, "row;set 0 0 5;kind 0 number"), 3);
        due("count(0)", x.count(0), 7);
    }

    private static void thirtySeasons() {
        topic("at most 30 seasons are kept");
        due("the 30th by add()", withSeasons(29).add(2, FLAG, 0), 29);
        due("the 30th by drop()", withSeasons(29).drop(0), 29);
        due("the 30th by kind()", withSeasons(29).kind(0, FLAG), 29);
        due("the 30th by a text", perform(withSeasons(29), "drop 0"), 1);
        due("the 31st by a text", perform(withSeasons(29), "drop 0;drop 1"), NOT_POSSIBLE);
        ColumnSeasons x = withSeasons(28);
        due("the 29th", x.add(2, DIGIT, 3), 28);
        due("the 30th", x.add(3, DIGIT, 4), 29);
        due("add()", x.add(4, DIGIT, 5), FULL);
        due("drop()", x.drop(0), FULL);
        due("kind()", x.kind(0, FLAG), FULL);
        due("count(0)", x.count(0), 29);
        due("season(29, 0)", x.season(29, 0), 3);
        due("season(28, 0)", x.season(28, 0), 2);
        due("season(30, 0)", x.season(30, 0), UNKNOWN);
        due("column(29, 3, 1)", x.column(29, 3, 1), 4);
        due("row()", x.row(), 0);
        due("seasonOf(0)", x.seasonOf(0), 29);
        due("value(0, 3)", x.value(0, 3), 4);
        x.undo();
        x.undo();
        due("the 30th once more", x.drop(0), 29);
        due("the 31st", x.drop(2), FULL);
    }

    private static void thirtySeasonsAfterForgetting() {
        topic("at most 30 seasons are kept, after forget()");
        for (int held = 0; held <= 29; held++) {
            ColumnSeasons x = new ColumnSeasons();
            for (int season = 0; season <= 29; season++) {
                if (season == held) {
                    x.row();
                }
                if (season < 29) {
                    due("season " + (season + 1), season % 2 == 0 ? x.add(7, FLAG, 1) : x.drop(7), season + 1);
                }
            }
            due("forget() up to " + held, x.forget(), held == 0 ? NONE : held);
            due("seasonOf(0)", x.seasonOf(0), 0);
            for (int more = 1; more <= held; more++) {
                due("one more", more % 2 == 1 ? x.drop(7) : x.add(7, FLAG, 0), 29 - held + more);
            }
            due("and then", held % 2 == 0 ? x.drop(7) : x.add(7, FLAG, 0), FULL);
            due("count(0)", x.count(0), 29);
        }
    }

    // ---- rows

    private static void twentyFourRows() {
        topic("At most 24 rows are kept, numbered from 0 in the order in which they came");
        ColumnSeasons x = new ColumnSeasons();
        x.add(0, NUMBER, 0);
        for (int row = 0; row < 24; row++) {
            due("seasonOf(" + row + ") ahead of it", x.seasonOf(row), UNKNOWN);
            due("row()", x.row(), row);
            due("set()", x.set(row, 0, 100 + row), 0);
        }
        due("row()", x.row(), FULL);
        due("row() by a text", perform(x, "row"), NOT_POSSIBLE);
        due("count(2)", x.count(2), 24);
        for (int row = 0; row < 24; row++) {
            due("value(" + row + ", 0)", x.value(row, 0), 100 + row);
        }
        due("value(24, 0)", x.value(24, 0), UNKNOWN);
        due("value(-1, 0)", x.value(-1, 0), UNKNOWN);
        due("remove(23)", x.remove(23), 23);
        due("row()", x.row(), 23);
        due("row()", x.row(), FULL);
        due("value(23, 0)", x.value(23, 0), 0);
        due("23 rows and one by a text", perform(withRows(23), "row"), 1);
        due("22 rows and two by a text", perform(withRows(22), "row;row"), 2);
        due("23 rows and two by a text", perform(withRows(23), "row;row"), NOT_POSSIBLE);
    }

    private static void numbersBehindARemovedRow() {
        topic("if one is removed, those behind it get numbers that are 1 less");
        for (int rows : new int[] {1, 2, 3, 23, 24}) {
            for (int removed = 0; removed < rows; removed++) {
                ColumnSeasons x = withRows(rows);
                x.drop(0);
                x.makeOver(rows / 2, rows / 2);
                x.undo();
                due("remove(" + removed + ") of " + rows, x.remove(removed), rows - 1);
                for (int row = 0; row < rows - 1; row++) {
                    due("value(" + row + ", 0)", x.value(row, 0), row < removed ? row : row + 1);
                }
                due("behind the last one", x.value(rows - 1, 0), UNKNOWN);
            }
        }
        ColumnSeasons x = new ColumnSeasons();
        for (int season = 0; season < 4; season++) {
            x.row();
            x.add(season, FLAG, 0);
        }
        x.remove(1);
        due("seasonOf(0)", x.seasonOf(0), 0);
        due("seasonOf(1)", x.seasonOf(1), 2);
        due("seasonOf(2)", x.seasonOf(2), 3);
        due("seasonOf(3)", x.seasonOf(3), UNKNOWN);
    }

    private static void valuesAtFirst() {
        topic("A row has a value of the kind for each of its columns, at first its default");
        int[][] columns = {{FLAG, 0}, {FLAG, 1}, {DIGIT, 0}, {DIGIT, 9}, {NUMBER, -9999}, {NUMBER, -1}, {NUMBER, 0},
            {NUMBER, 9999}};
        ColumnSeasons x = new ColumnSeasons();
        for (int name = 0; name <= 8; name++) {
            due("row()", x.row(), name);
            for (int other = 0; other <= 7; other++) {
                int due = other < name ? columns[other][1] : NONE;
                due("value(" + name + ", " + other + ")", x.value(name, other), due);
            }
            if (name < 8) {
                x.add(name, columns[name][0], columns[name][1]);
            }
        }
        due("seasonOf(0)", x.seasonOf(0), 0);
        due("seasonOf(8)", x.seasonOf(8), 8);
    }

    private static void aPlaceThatIsUsedAgain() {
        topic("at first its default, in the place of a row that was");
        ColumnSeasons x = new ColumnSeasons();
        x.add(0, NUMBER, 11);
        x.add(1, NUMBER, 12);
        x.row();
        x.set(0, 0, 500);
        x.remove(0);
        due("row() behind remove()", x.row(), 0);
        due("value(0, 0)", x.value(0, 0), 11);
        x.set(0, 1, 600);
        x.undo();
        x.undo();
        x.drop(1);
        due("row() behind undo()", x.row(), 0);
        due("value(0, 0)", x.value(0, 0), 11);
        due("value(0, 1)", x.value(0, 1), NONE);
        due("seasonOf(0)", x.seasonOf(0), 3);
    }

    private static void rowsKeepTheirDress() {
        topic("A row keeps the dress of its season");
        ColumnSeasons x = new ColumnSeasons();
        x.row();
        x.add(0, NUMBER, -9999);
        x.row();
        x.kind(0, FLAG);
        x.row();
        x.drop(0);
        x.row();
        x.add(0, DIGIT, 9);
        x.add(1, DIGIT, 8);
        int[] seasons = {0, 1, 2, 3};
        int[] values = {NONE, -9999, 1, NONE};
        for (int row = 0; row < 4; row++) {
            due("seasonOf(" + row + ")", x.seasonOf(row), seasons[row]);
            due("value(" + row + ", 0)", x.value(row, 0), values[row]);
            due("value(" + row + ", 1)", x.value(row, 1), NONE);
            due("set(" + row + ", 1, 1)", x.set(row, 1, 1), UNKNOWN);
        }
        due("set() in the dress without columns", x.set(0, 0, 1), UNKNOWN);
        due("set() in the dress with the number", x.set(1, 0, 9999), -9999);
        due("set() in the dress with the flag", x.set(2, 0, 2), BAD);
        due("set() in the dress with the flag", x.set(2, 0, 0), 1);
        due("set() in the dress behind the drop", x.set(3, 0, 1), UNKNOWN);
    }

    // ---- casts

    private static ColumnSeasons beforeCast(int[] cast) {
        ColumnSeasons x = new ColumnSeasons();
        x.add(0, cast[0], 0);
        x.row();
        x.set(0, 0, cast[1]);
        x.add(1, FLAG, 0);
        x.kind(0, cast[2]);
        return x;
    }

    private static void castsOfValuesThatAreRead() {
        topic("A value is cast from a kind to another one; a cast loses, if casting back gives another value");
        for (int[] cast : CASTS) {
            String what = cast[1] + " of kind " + cast[0] + " as kind " + cast[2];
            ColumnSeasons x = beforeCast(cast);
            int now = x.count(0);
            due(what, x.read(0, now, 0, 0), cast[3]);
            due("how it came, " + what, x.read(0, now, 0, 1), cast[4]);
            due("in its own season, " + what, x.read(0, 1, 0, 0), cast[1]);
            due("how it came there, " + what, x.read(0, 1, 0, 1), 0);
            due("values that would be lost, " + what, x.count(5), cast[4] == 2 ? 1 : 0);
            due("the value stays, " + what, x.value(0, 0), cast[1]);
        }
    }

    private static void castsOfValuesThatAreMadeOver() {
        topic("the value itself, if it is in the range, of a row that is made over");
        for (int[] cast : CASTS) {
            String what = cast[1] + " of kind " + cast[0] + " as kind " + cast[2];
            ColumnSeasons x = beforeCast(cast);
            due("makeOver(0, 0), " + what, x.makeOver(0, 0), cast[4] == 2 ? 1 : 0);
            due("value(0, 0), " + what, x.value(0, 0), cast[3]);
            due("value(0, 1), " + what, x.value(0, 1), 0);
            due("how it is read then, " + what, x.read(0, x.count(0), 0, 1), 0);
            due("a lost value does not come back, " + what, x.read(0, 1, 0, 0), cast[3]);
        }
    }

    private static void castsOfDefaults() {
        topic("Gives a column another kind, with its default cast to it");
        for (int[] cast : CASTS) {
            String what = cast[1] + " of kind " + cast[0] + " as kind " + cast[2];
            ColumnSeasons x = new ColumnSeasons();
            x.add(0, cast[0], cast[1]);
            due("kind(), " + what, x.kind(0, cast[2]), cast[4] == 0 ? NONE : 2);
            due("default, " + what, x.column(x.count(0), 0, 1), cast[3]);
            due("default before, " + what, x.column(1, 0, 1), cast[1]);
            x.row();
            due("value, " + what, x.value(0, 0), cast[3]);
        }
    }

    // ---- reading

    private static void ownValueOrDefault() {
        topic("if the row has a column of this name, its value, otherwise the default of the season's column");
        for (int standard : new int[] {-9999, -1, 0, 1, 9999}) {
            ColumnSeasons x = new ColumnSeasons();
            x.row();
            x.add(0, NUMBER, standard);
            x.row();
            x.add(1, NUMBER, -standard);
            x.drop(0);
            due("no such column in the row", x.read(0, 1, 0, 0), standard);
            due("how", x.read(0, 1, 0, 1), 3);
            due("its own, like the default", x.read(1, 1, 0, 0), standard);
            due("how", x.read(1, 1, 0, 1), 0);
            due("a column that came later", x.read(1, 2, 1, 0), -standard);
            due("how", x.read(1, 2, 1, 1), 3);
            due("no such column in the season of now", x.read(1, 3, 0, 0), NONE);
            due("no such column in the first season", x.read(1, 0, 0, 1), NONE);
            x.row();
            due("a later row in an earlier season", x.read(2, 1, 0, 0), standard);
            due("how", x.read(2, 1, 0, 1), 3);
        }
    }

    private static void columnsThatComeAgain() {
        topic("Also if the column was gone in between, and came again");
        ColumnSeasons x = new ColumnSeasons();
        x.add(0, NUMBER, 5);
        x.row();
        x.set(0, 0, 12);
        x.drop(0);
        x.row();
        x.add(0, NUMBER, 6);
        x.drop(0);
        x.add(0, DIGIT, 7);
        x.drop(0);
        x.add(0, FLAG, 0);
        int[][] due = {{NONE, NONE}, {12, 0}, {NONE, NONE}, {12, 0}, {NONE, NONE}, {9, 2}, {NONE, NONE}, {1, 2}};
        int[] standards = {NONE, 5, NONE, 6, NONE, 7, NONE, 0};
        for (int season = 0; season <= 7; season++) {
            due("the row that had it, in " + season, x.read(0, season, 0, 0), due[season][0]);
            due("how, in " + season, x.read(0, season, 0, 1), due[season][1]);
            due("the row that had it not, in " + season, x.read(1, season, 0, 0), standards[season]);
            due("how, in " + season, x.read(1, season, 0, 1), standards[season] == NONE ? NONE : 3);
        }
        x.undo();
        x.undo();
        due("gone and come once", x.makeOver(0, 0), 1);
        due("value(0, 0)", x.value(0, 0), 9);
    }

    private static void madeOverAsTheyAreRead() {
        topic("Making a row over gives it the dress of now, with the values as they are read in it");
        for (int now = 0; now <= 2; now++) {
            ColumnSeasons x = new ColumnSeasons();
            int[] values = {-9999, -1, 0, 1, 2, 9, 10, 9999};
            for (int name = 0; name < 8; name++) {
                x.add(name, NUMBER, values[name]);
            }
            x.row();
            for (int name = 0; name < 8; name++) {
                x.kind(name, now);
            }
            x.drop(7);
            x.drop(6);
            x.add(7, DIGIT, 4);
            int season = x.count(0);
            int[] read = new int[8];
            for (int name = 0; name < 8; name++) {
                read[name] = x.read(0, season, name, 0);
            }
            x.makeOver(0, 0);
            due("seasonOf(0)", x.seasonOf(0), season);
            for (int name = 0; name < 8; name++) {
                due("value(0, " + name + ")", x.value(0, name), read[name]);
                due("read(0, .., " + name + ", 0)", x.read(0, season, name, 0), read[name]);
            }
        }
    }

    // ---- views

    private static void columnsOfAllRows() {
        topic("shows the columns (by names) that the dresses of all these rows have");
        for (int lacks = 0; lacks < 24; lacks++) {
            ColumnSeasons x = new ColumnSeasons();
            x.add(0, DIGIT, 1);
            x.add(7, DIGIT, 1);
            for (int row = 0; row < 24; row++) {
                if (row == lacks) {
                    x.drop(7);
                }
                x.row();
                if (row == lacks) {
                    x.add(7, FLAG, 0);
                }
            }
            due("all of them", x.view(0, 23, 0), 1);
            due("the one that lacks it", x.view(lacks, lacks, 0), 1);
            if (lacks > 0) {
                due("those ahead of it", x.view(0, lacks - 1, 0), 129);
                due("the column in it", x.viewColumn(0, lacks, 7, 0), NONE);
            }
            if (lacks < 23) {
                due("those behind it", x.view(lacks + 1, 23, 0), 129);
                due("the column in it", x.viewColumn(lacks, 23, 7, 0), NONE);
            }
        }
        ColumnSeasons x = new ColumnSeasons();
        x.row();
        due("a row without columns", x.view(0, 0, 0), 0);
        for (int name = 0; name < 8; name++) {
            x.add(name, FLAG, 0);
        }
        x.row();
        due("a row with all columns", x.view(1, 1, 0), 255);
        due("both", x.view(0, 1, 0), 0);
    }

    private static void widestKinds() {
        topic("the widest one among them (a number ahead of a digit ahead of a flag)");
        for (int first = FLAG; first <= NUMBER; first++) {
            for (int second = FLAG; second <= NUMBER; second++) {
                for (int third = FLAG; third <= NUMBER; third++) {
                    ColumnSeasons x = new ColumnSeasons();
                    x.add(7, first, 0);
                    x.row();
                    x.kind(7, second);
                    x.row();
                    x.kind(7, third);
                    x.row();
                    String kinds = first + " " + second + " " + third;
                    due("one of " + kinds, x.viewColumn(1, 1, 7, 0), second);
                    due("the first two of " + kinds, x.viewColumn(0, 1, 7, 0), Math.max(first, second));
                    due("the last two of " + kinds, x.viewColumn(1, 2, 7, 0), Math.max(second, third));
                    int widest = Math.max(first, Math.max(second, third));
                    due("all of " + kinds, x.viewColumn(0, 2, 7, 0), widest);
                    x.drop(7);
                    x.add(7, FLAG, 0);
                    due("the kind of now is not asked, " + kinds, x.viewColumn(0, 2, 7, 0), widest);
                }
            }
        }
    }

    private static void valuesCastToTheWidest() {
        topic("values are cast to it (nothing is lost by that)");
        ColumnSeasons x = new ColumnSeasons();
        x.add(0, FLAG, 1);
        x.row();
        x.kind(0, DIGIT);
        x.row();
        x.set(1, 0, 9);
        x.kind(0, NUMBER);
        x.row();
        x.set(2, 0, -9999);
        x.row();
        x.set(3, 0, 9999);
        x.kind(0, FLAG);
        due("sum of the flag and the digit", x.viewColumn(0, 1, 0, 1), 10);
        due("greatest of these", x.viewColumn(0, 1, 0, 3), 9);
        due("sum of the first three", x.viewColumn(0, 2, 0, 1), -9989);
        due("sum of all", x.viewColumn(0, 3, 0, 1), 10);
        due("least of all", x.viewColumn(0, 3, 0, 2), -9999);
        due("greatest of all", x.viewColumn(0, 3, 0, 3), 9999);
        due("unlike ones of all", x.viewColumn(0, 3, 0, 4), 4);
        x.set(1, 0, 1);
        due("a flag and a digit that are the same number", x.viewColumn(0, 1, 0, 4), 1);
        x.set(2, 0, 1);
        due("and a number", x.viewColumn(0, 2, 0, 4), 1);
    }

    private static void viewsOverNoRows() {
        topic("A view over no rows shows nothing");
        ColumnSeasons x = withRows(24);
        for (int[] span : new int[][] {{1, 0}, {23, 22}, {23, 0}, {12, 3}}) {
            due("names", x.view(span[0], span[1], 0), 0);
            due("rows", x.view(span[0], span[1], 1), 0);
            due("defaults", x.view(span[0], span[1], 2), 0);
            for (int what = 0; what <= 4; what++) {
                due("a column", x.viewColumn(span[0], span[1], 0, what), NONE);
            }
        }
        for (int row = 0; row < 23; row++) {
            due("names of the row " + row, x.view(row, row, 0), 1);
            due("rows", x.view(row, row, 1), 1);
            due("a row more", x.view(row, row + 1, 1), 2);
            due("a row less", x.view(row + 1, row, 1), 0);
        }
    }
}
