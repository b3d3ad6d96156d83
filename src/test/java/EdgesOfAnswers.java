/** The boundaries that the promises 17 to 26 name: what is told. */
public final class EdgesOfAnswers extends TestBase {
    public static void main(String[] args) {
        promise17();
        promise17OfFullSeasons();
        promise18Arguments();
        promise18Columns();
        promise18Rows();
        promise18NewColumns();
        promise19();
        promise20Arguments();
        promise20HowItCame();
        promise21();
        promise22Arguments();
        promise22Names();
        promise22Defaults();
        promise22DefaultsAsNumbers();
        promise23Arguments();
        promise23Sums();
        promise23LeastAndGreatest();
        promise23UnlikeOnes();
        promise24();
        promise24OfSeveral();
        promise25();
        promise25OfSeveral();
        promise25ManySeasons();
        promise26Arguments();
        promise26SeasonsAndColumns();
        promise26Rows();
        promise26Losses();
        promise26Names();
        promise26HistoryAndText();
        CHECKS.end();
    }

    /** All names are columns then, in the season 8, and so many rows have them: 0 of a flag each. */
    private static ColumnSeasons withAllNames(int rows) {
        ColumnSeasons x = new ColumnSeasons();
        for (int name = 0; name <= 7; name++) {
            x.add(name, FLAG, 0);
        }
        for (int row = 0; row < rows; row++) {
            x.row();
        }
        return x;
    }

    // ---- seasons

    private static void promise17() {
        topic("17: column(): season: 0 to that of now; name: 0 to 7; what: 0 or 1");
        ColumnSeasons x = new ColumnSeasons();
        x.add(0, DIGIT, 9);
        x.add(7, NUMBER, -9999);
        refusedOutside("column(.., 0, 0)", 0, 2, UNKNOWN, season -> x.column(season, 0, 0));
        refusedOutside("column(2, .., 0)", 0, 7, UNKNOWN, name -> x.column(2, name, 0));
        refusedOutside("column(2, 0, ..)", 0, 1, BAD, what -> x.column(2, 0, what));
        refusedOutside("column(0, 0, ..)", 0, 1, BAD, what -> x.column(0, 0, what));
        due("column(0, 0, 0)", x.column(0, 0, 0), NONE);
        due("column(1, 0, 0)", x.column(1, 0, 0), DIGIT);
        due("column(1, 0, 1)", x.column(1, 0, 1), 9);
        due("column(1, 7, 0)", x.column(1, 7, 0), NONE);
        due("column(1, 7, 1)", x.column(1, 7, 1), NONE);
        due("column(2, 7, 0)", x.column(2, 7, 0), NUMBER);
        due("column(2, 7, 1)", x.column(2, 7, 1), -9999);
        due("column(2, 0, 1)", x.column(2, 0, 1), 9);
        for (int name = 1; name <= 6; name++) {
            due("column(2, " + name + ", 0)", x.column(2, name, 0), NONE);
            due("column(2, " + name + ", 1)", x.column(2, name, 1), NONE);
        }
    }

    private static void promise17OfFullSeasons() {
        topic("17: column(): with 30 seasons");
        ColumnSeasons x = fullOfSeasons();
        for (int season = 0; season <= 29; season++) {
            due("column(" + season + ", 0, 0)", x.column(season, 0, 0), season == 0 ? NONE : NUMBER);
            boolean hasFlag = season >= 2 && season % 2 == 0;
            due("column(" + season + ", 1, 0)", x.column(season, 1, 0), hasFlag ? FLAG : NONE);
            due("column(" + season + ", 1, 1)", x.column(season, 1, 1), hasFlag ? 0 : NONE);
        }
        refusedOutside("column(.., 0, 0)", 0, 29, UNKNOWN, season -> x.column(season, 0, 0));
        x.undo();
        due("a season that was undone", x.column(29, 0, 0), UNKNOWN);
        due("the one before it", x.column(28, 0, 0), NUMBER);
        x.forget();
        due("a season that was forgotten", x.column(1, 0, 0), UNKNOWN);
        due("the one that is left", x.column(0, 0, 0), NUMBER);
    }

    private static void promise18Arguments() {
        topic("18: season(): season: 0 to that of now; UNKNOWN; BAD_VALUE");
        ColumnSeasons x = new ColumnSeasons();
        refusedOutside("season(.., 0) of a new one", 0, 0, UNKNOWN, season -> x.season(season, 0));
        refusedOutside("season(0, ..) of a new one", 0, 3, BAD, what -> x.season(0, what));
        ColumnSeasons full = fullOfSeasons();
        for (int what = 0; what <= 3; what++) {
            int asked = what;
            refusedOutside("season(.., " + what + ")", 0, 29, UNKNOWN, season -> full.season(season, asked));
        }
        refusedOutside("season(29, ..)", 0, 3, BAD, what -> full.season(29, what));
        due("season(29, 0)", full.season(29, 0), 1);
        due("season(28, 0)", full.season(28, 0), 2);
        due("season(0, 0)", full.season(0, 0), 0);
    }

    private static void promise18Columns() {
        topic("18: season(): 0 for its columns, 1 for the names of these, as a set");
        ColumnSeasons x = withAllNames(0);
        for (int season = 0; season <= 8; season++) {
            due("season(" + season + ", 0)", x.season(season, 0), season);
            due("season(" + season + ", 1)", x.season(season, 1), (1 << season) - 1);
        }
        for (int name = 0; name <= 7; name++) {
            x.drop(name);
            due("columns without 0 to " + name, x.season(9 + name, 0), 7 - name);
            due("names without 0 to " + name, x.season(9 + name, 1), 255 - ((2 << name) - 1));
        }
    }

    private static void promise18Rows() {
        topic("18: season(): 2 for rows whose season it is");
        for (int first = 0; first <= 24; first += 6) {
            ColumnSeasons x = new ColumnSeasons();
            for (int row = 0; row < first; row++) {
                x.row();
            }
            x.add(0, FLAG, 0);
            x.drop(0);
            for (int row = first; row < 24; row++) {
                x.row();
            }
            due("rows of 0", x.season(0, 2), first);
            due("rows of 1", x.season(1, 2), 0);
            due("rows of 2", x.season(2, 2), 24 - first);
            if (first > 0) {
                x.makeOver(0, 0);
                due("rows of 0, one made over", x.season(0, 2), first - 1);
                due("rows of 2, one made over", x.season(2, 2), 25 - first);
            }
        }
        ColumnSeasons x = withRows(24);
        due("rows of 1", x.season(1, 2), 24);
        x.remove(23);
        due("rows of 1, the last one removed", x.season(1, 2), 23);
        x.remove(0);
        due("rows of 1, the first one removed", x.season(1, 2), 22);
        x.row();
        due("rows of 1, one more", x.season(1, 2), 23);
        due("rows of 0", x.season(0, 2), 0);
    }

    private static void promise18NewColumns() {
        topic("18: season(): 3 for columns that it has and the one before had not, or of another kind "
            + "(0 for the first one that is kept)");
        ColumnSeasons x = new ColumnSeasons();
        due("season(0, 3)", x.season(0, 3), 0);
        x.add(7, DIGIT, 5);
        due("a column more", x.season(1, 3), 1);
        x.kind(7, NUMBER);
        due("another kind, wider", x.season(2, 3), 1);
        x.kind(7, FLAG);
        due("another kind, narrower", x.season(3, 3), 1);
        x.add(0, FLAG, 0);
        due("a column more, of two", x.season(4, 3), 1);
        x.drop(7);
        due("a column less", x.season(5, 3), 0);
        x.drop(0);
        due("the last column less", x.season(6, 3), 0);
        x.add(0, FLAG, 0);
        due("a column that came again", x.season(7, 3), 1);
        x.forget();
        due("the first one that is kept, with a column", x.season(0, 3), 0);
        x.add(1, FLAG, 0);
        due("the second one", x.season(1, 3), 1);
        x.row();
        x.add(2, FLAG, 0);
        x.forget();
        due("the second one is the first one now", x.season(0, 3), 0);
        due("the third one is the second one now", x.season(1, 3), 1);
        x.undo();
        due("undone: the first one", x.season(0, 3), 0);
        due("undone: the second one", x.season(1, 3), 1);
        due("undone: the third one", x.season(2, 3), 1);
    }

    // ---- rows

    private static void promise19() {
        topic("19: value(): UNKNOWN (row or name); NONE if it has no such column");
        ColumnSeasons none = new ColumnSeasons();
        none.add(0, FLAG, 1);
        refusedOutside("value(.., 0) without rows", 0, -1, UNKNOWN, row -> none.value(row, 0));
        ColumnSeasons x = withRows(24);
        refusedOutside("value(.., 0)", 0, 23, UNKNOWN, row -> x.value(row, 0));
        refusedOutside("value(23, ..)", 0, 7, UNKNOWN, name -> x.value(23, name));
        refusedOutside("value(0, ..)", 0, 7, UNKNOWN, name -> x.value(0, name));
        for (int name = 1; name <= 7; name++) {
            due("value(0, " + name + ")", x.value(0, name), NONE);
            due("value(23, " + name + ")", x.value(23, name), NONE);
        }
        due("value(0, 0)", x.value(0, 0), 0);
        due("value(23, 0)", x.value(23, 0), 23);
        x.set(23, 0, -9999);
        due("the least value", x.value(23, 0), -9999);
        x.set(23, 0, 9999);
        due("the greatest value", x.value(23, 0), 9999);
        x.kind(0, FLAG);
        due("in its own dress", x.value(23, 0), 9999);
        x.drop(0);
        due("in its own dress, dropped now", x.value(23, 0), 9999);
        x.add(7, DIGIT, 9);
        due("a column of now, not of its dress", x.value(23, 7), NONE);
        x.remove(0);
        due("value(23, 0) of 23 rows", x.value(23, 0), UNKNOWN);
        due("value(22, 0) of 23 rows", x.value(22, 0), 9999);
    }

    private static void promise20Arguments() {
        topic("20: read(): UNKNOWN (row, season or name); BAD_VALUE; NONE if the season has no such column");
        ColumnSeasons none = fullOfSeasons();
        refusedOutside("read(.., 29, 0, 0) without rows", 0, -1, UNKNOWN, row -> none.read(row, 29, 0, 0));
        ColumnSeasons x = fullOfSeasons();
        perform(x, "row;row;row;row;row;row;row;row;row;row;row;row");
        x.perform();
        refusedOutside("read(.., 29, 0, 0)", 0, 23, UNKNOWN, row -> x.read(row, 29, 0, 0));
        refusedOutside("read(23, .., 0, 0)", 0, 29, UNKNOWN, season -> x.read(23, season, 0, 0));
        refusedOutside("read(23, 29, .., 0)", 0, 7, UNKNOWN, name -> x.read(23, 29, name, 0));
        refusedOutside("read(23, 29, 0, ..)", 0, 1, BAD, what -> x.read(23, 29, 0, what));
        refusedOutside("read(0, 0, 7, ..)", 0, 1, BAD, what -> x.read(0, 0, 7, what));
        for (int season = 0; season <= 29; season++) {
            due("read(23, " + season + ", 0, 1)", x.read(23, season, 0, 1), season == 0 ? NONE : 0);
            boolean hasFlag = season >= 2 && season % 2 == 0;
            due("read(0, " + season + ", 1, 0)", x.read(0, season, 1, 0), hasFlag ? 0 : NONE);
            due("read(0, " + season + ", 1, 1)", x.read(0, season, 1, 1), hasFlag ? 3 : NONE);
            due("read(0, " + season + ", 7, 0)", x.read(0, season, 7, 0), NONE);
        }
    }

    private static void promise20HowItCame() {
        topic("20: read(): how it came: 0 it is the row's own, as it is, 1 cast without a loss, 2 cast with one, "
            + "3 the default stands in");
        ColumnSeasons x = new ColumnSeasons();
        x.add(0, NUMBER, -9999);
        x.add(7, DIGIT, 9);
        x.row();
        x.kind(0, DIGIT);
        x.kind(0, FLAG);
        x.kind(7, FLAG);
        x.kind(7, NUMBER);
        x.add(3, NUMBER, 9999);
        due("its own", x.read(0, 1, 0, 0), -9999);
        due("how", x.read(0, 1, 0, 1), 0);
        due("as a digit", x.read(0, 3, 0, 0), 0);
        due("how", x.read(0, 3, 0, 1), 2);
        due("as a flag", x.read(0, 4, 0, 0), 1);
        due("how", x.read(0, 4, 0, 1), 2);
        due("a digit as a flag", x.read(0, 5, 7, 0), 1);
        due("how", x.read(0, 5, 7, 1), 2);
        due("a digit as a number", x.read(0, 6, 7, 0), 9);
        due("how", x.read(0, 6, 7, 1), 1);
        due("stands in", x.read(0, 7, 3, 0), 9999);
        due("how", x.read(0, 7, 3, 1), 3);
        due("the season before has no such column", x.read(0, 6, 3, 0), NONE);
        x.set(0, 7, 1);
        due("a digit 1 as a flag", x.read(0, 5, 7, 1), 1);
        x.set(0, 7, 2);
        due("a digit 2 as a flag", x.read(0, 5, 7, 1), 2);
        x.set(0, 7, 0);
        due("a digit 0 as a flag", x.read(0, 5, 7, 1), 1);
        due("reading changes no value", x.value(0, 0), -9999);
    }

    private static void promise21() {
        topic("21: seasonOf(): Returns the season; UNKNOWN");
        ColumnSeasons none = new ColumnSeasons();
        refusedOutside("seasonOf() without rows", 0, -1, UNKNOWN, none::seasonOf);
        ColumnSeasons x = new ColumnSeasons();
        for (int row = 0; row < 24; row++) {
            due("seasonOf(" + row + ") ahead of it", x.seasonOf(row), UNKNOWN);
            x.row();
            due("seasonOf(" + row + ")", x.seasonOf(row), row);
            if (row % 2 == 0) {
                x.add(row % 8, FLAG, 0);
            } else {
                x.drop((row - 1) % 8);
            }
        }
        refusedOutside("seasonOf()", 0, 23, UNKNOWN, x::seasonOf);
        x.remove(0);
        due("seasonOf(0), the first one removed", x.seasonOf(0), 1);
        due("seasonOf(22), the first one removed", x.seasonOf(22), 23);
        due("seasonOf(23), the first one removed", x.seasonOf(23), UNKNOWN);
        x.forget();
        due("seasonOf(0), one forgotten", x.seasonOf(0), 0);
        due("seasonOf(22), one forgotten", x.seasonOf(22), 22);
        x.makeOver(0, 0);
        due("seasonOf(0), made over", x.seasonOf(0), 23);
        due("seasonOf(1)", x.seasonOf(1), 1);
    }

    // ---- views

    private static void promise22Arguments() {
        topic("22: view(): UNKNOWN (from or to); BAD_VALUE; 1 for how many rows it has");
        ColumnSeasons none = new ColumnSeasons();
        refusedOutside("view(.., 0, 0) without rows", 0, -1, UNKNOWN, from -> none.view(from, 0, 0));
        refusedOutside("view(0, .., 0) without rows", 0, -1, UNKNOWN, to -> none.view(0, to, 0));
        ColumnSeasons x = withRows(24);
        for (int what = 0; what <= 2; what++) {
            int asked = what;
            refusedOutside("view(.., 23, " + what + ")", 0, 23, UNKNOWN, from -> x.view(from, 23, asked));
            refusedOutside("view(0, .., " + what + ")", 0, 23, UNKNOWN, to -> x.view(0, to, asked));
        }
        refusedOutside("view(0, 23, ..)", 0, 2, BAD, what -> x.view(0, 23, what));
        refusedOutside("view(23, 0, ..)", 0, 2, BAD, what -> x.view(23, 0, what));
        due("all rows", x.view(0, 23, 1), 24);
        due("all but the first one", x.view(1, 23, 1), 23);
        due("all but the last one", x.view(0, 22, 1), 23);
        due("the last one", x.view(23, 23, 1), 1);
        due("no row", x.view(23, 22, 1), 0);
        due("no row", x.view(23, 0, 1), 0);
    }

    private static void promise22Names() {
        topic("22: view(): 0 for the names, as a set");
        ColumnSeasons x = withAllNames(2);
        due("all names", x.view(0, 1, 0), 255);
        for (int name = 0; name <= 7; name++) {
            x.drop(name);
            x.row();
            due("without 0 to " + name, x.view(0, 2 + name, 0), 255 - ((2 << name) - 1));
            due("the one before it too", x.view(1 + name, 2 + name, 0), 255 - ((2 << name) - 1));
        }
        due("a view that ends ahead of them", x.view(0, 1, 0), 255);
        due("the last one", x.view(9, 9, 0), 0);
        x.add(3, NUMBER, 0);
        x.row();
        due("a column that came again", x.view(10, 10, 0), 8);
        due("with the one before", x.view(9, 10, 0), 0);
    }

    private static void promise22Defaults() {
        topic("22: view(): 2 for how many values of all columns in it are the default of the season of now "
            + "(for columns that this has)");
        ColumnSeasons x = withAllNames(24);
        due("all that there can be", x.view(0, 23, 2), 192);
        due("the first one", x.view(0, 0, 2), 8);
        due("the last one", x.view(23, 23, 2), 8);
        due("no row", x.view(23, 22, 2), 0);
        x.set(0, 0, 1);
        due("one value less", x.view(0, 23, 2), 191);
        due("a view without it", x.view(1, 23, 2), 184);
        x.set(23, 7, 1);
        due("two values less", x.view(0, 23, 2), 190);
        x.drop(0);
        due("columns that now has not are not asked", x.view(0, 23, 2), 167);
        x.add(0, FLAG, 1);
        due("the default of now, not that of the row's season", x.view(0, 23, 2), 168);
        due("the value that is it", x.view(0, 0, 2), 8);
        for (int name = 0; name <= 7; name++) {
            x.drop(name);
        }
        due("without columns of now", x.view(0, 23, 2), 0);
        x.remove(0);
        x.row();
        x.add(7, FLAG, 1);
        due("columns that the view has not are not asked", x.view(22, 23, 2), 0);
        due("those that it has are", x.view(0, 22, 2), 1);
    }

    private static void promise22DefaultsAsNumbers() {
        topic("22: view(): compared as numbers");
        for (int kind = FLAG; kind <= NUMBER; kind++) {
            for (int now = FLAG; now <= NUMBER; now++) {
                ColumnSeasons x = new ColumnSeasons();
                x.add(0, kind, 1);
                x.row();
                x.row();
                x.set(1, 0, 0);
                x.drop(0);
                x.add(0, now, 1);
                due("1 of kind " + kind + " and of kind " + now, x.view(0, 1, 2), 1);
                due("the first row", x.view(0, 0, 2), 1);
                due("the second row", x.view(1, 1, 2), 0);
                x.drop(0);
                x.add(0, now, 0);
                due("0 of kind " + kind + " and of kind " + now, x.view(1, 1, 2), 1);
                due("the first row", x.view(0, 0, 2), 0);
            }
        }
        ColumnSeasons x = new ColumnSeasons();
        x.add(0, NUMBER, -9999);
        x.row();
        due("-9999", x.view(0, 0, 2), 1);
        x.kind(0, DIGIT);
        due("it is not cast to the default's kind", x.view(0, 0, 2), 0);
        x.set(0, 0, 7);
        x.kind(0, FLAG);
        x.drop(0);
        x.add(0, FLAG, 1);
        due("7 is not the default 1 of a flag", x.view(0, 0, 2), 0);
        x.set(0, 0, 1);
        due("1 is", x.view(0, 0, 2), 1);
    }

    private static void promise23Arguments() {
        topic("23: viewColumn(): UNKNOWN (from, to or name); BAD_VALUE; NONE if the view has no such column");
        ColumnSeasons none = new ColumnSeasons();
        none.add(0, FLAG, 0);
        due("without rows", none.viewColumn(0, 0, 0, 0), UNKNOWN);
        due("without rows, backwards", none.viewColumn(0, -1, 0, 0), UNKNOWN);
        ColumnSeasons x = withRows(24);
        refusedOutside("viewColumn(.., 23, 0, 0)", 0, 23, UNKNOWN, from -> x.viewColumn(from, 23, 0, 0));
        refusedOutside("viewColumn(0, .., 0, 0)", 0, 23, UNKNOWN, to -> x.viewColumn(0, to, 0, 0));
        refusedOutside("viewColumn(0, 23, .., 0)", 0, 7, UNKNOWN, name -> x.viewColumn(0, 23, name, 0));
        refusedOutside("viewColumn(0, 23, 0, ..)", 0, 4, BAD, what -> x.viewColumn(0, 23, 0, what));
        refusedOutside("viewColumn(23, 0, 7, ..)", 0, 4, BAD, what -> x.viewColumn(23, 0, 7, what));
        for (int what = 0; what <= 4; what++) {
            for (int name = 1; name <= 7; name++) {
                due("a column that it has not", x.viewColumn(0, 23, name, what), NONE);
            }
            due("no rows", x.viewColumn(1, 0, 0, what), NONE);
        }
        x.add(7, DIGIT, 3);
        due("a column of now that the view has not", x.viewColumn(0, 23, 7, 0), NONE);
        x.makeOver(0, 22);
        due("the last row has it not", x.viewColumn(0, 23, 7, 0), NONE);
        due("all of these have it", x.viewColumn(0, 22, 7, 0), DIGIT);
        x.makeOver(23, 23);
        due("all have it", x.viewColumn(0, 23, 7, 1), 72);
        x.drop(7);
        due("also if now has it not", x.viewColumn(0, 23, 7, 1), 72);
    }

    private static void promise23Sums() {
        topic("23: viewColumn(): 1 for the sum of its values");
        for (int sign = -1; sign <= 1; sign++) {
            ColumnSeasons x = new ColumnSeasons();
            x.add(0, NUMBER, 9999 * sign);
            for (int row = 0; row < 24; row++) {
                x.row();
            }
            due("sum of 24 with " + sign, x.viewColumn(0, 23, 0, 1), 239976 * sign);
            due("sum of 23 with " + sign, x.viewColumn(1, 23, 0, 1), 229977 * sign);
            due("sum of the first one", x.viewColumn(0, 0, 0, 1), 9999 * sign);
            due("sum of the last one", x.viewColumn(23, 23, 0, 1), 9999 * sign);
            due("kind", x.viewColumn(0, 23, 0, 0), NUMBER);
        }
        ColumnSeasons x = withRows(24);
        due("sum of 0 to 23", x.viewColumn(0, 23, 0, 1), 276);
        due("sum of 0 to 22", x.viewColumn(0, 22, 0, 1), 253);
        due("sum of 5 to 6", x.viewColumn(5, 6, 0, 1), 11);
        ColumnSeasons likeNone = withRows(2);
        likeNone.set(0, 0, -9999);
        likeNone.set(1, 0, -6);
        due("a sum that is the number of NONE", likeNone.viewColumn(0, 1, 0, 1), -10005);
        likeNone.set(1, 0, -2);
        due("a sum that is the number of UNKNOWN", likeNone.viewColumn(0, 1, 0, 1), -10001);
    }

    private static void promise23LeastAndGreatest() {
        topic("23: viewColumn(): 2 for the least one, 3 for the greatest one");
        for (int place = 0; place < 24; place++) {
            ColumnSeasons x = new ColumnSeasons();
            x.add(3, NUMBER, 50);
            for (int row = 0; row < 24; row++) {
                x.row();
            }
            x.set(place, 3, -9999);
            due("least at " + place, x.viewColumn(0, 23, 3, 2), -9999);
            due("greatest without it", x.viewColumn(0, 23, 3, 3), 50);
            x.set(place, 3, 9999);
            due("greatest at " + place, x.viewColumn(0, 23, 3, 3), 9999);
            due("least without it", x.viewColumn(0, 23, 3, 2), 50);
            if (place > 0) {
                due("greatest ahead of it", x.viewColumn(0, place - 1, 3, 3), 50);
            }
            if (place < 23) {
                due("greatest behind it", x.viewColumn(place + 1, 23, 3, 3), 50);
            }
        }
        for (int value : new int[] {-9999, -1, 0, 1, 9999}) {
            ColumnSeasons x = new ColumnSeasons();
            x.add(3, NUMBER, value);
            x.row();
            due("least of " + value, x.viewColumn(0, 0, 3, 2), value);
            due("greatest of " + value, x.viewColumn(0, 0, 3, 3), value);
        }
    }

    private static void promise23UnlikeOnes() {
        topic("23: viewColumn(): 4 for unlike ones");
        for (int unlike = 1; unlike <= 24; unlike++) {
            ColumnSeasons x = new ColumnSeasons();
            x.add(0, NUMBER, 0);
            for (int row = 0; row < 24; row++) {
                x.row();
                x.set(row, 0, row % unlike);
            }
            due("unlike ones of " + unlike, x.viewColumn(0, 23, 0, 4), unlike);
            due("of the last two", x.viewColumn(22, 23, 0, 4), Math.min(unlike, 2));
            due("of the last one", x.viewColumn(23, 23, 0, 4), 1);
        }
        ColumnSeasons x = withRows(3);
        x.set(0, 0, 5);
        x.set(1, 0, -5);
        x.set(2, 0, 5);
        due("5, -5 and 5", x.viewColumn(0, 2, 0, 4), 2);
        due("-5 and 5", x.viewColumn(1, 2, 0, 4), 2);
    }

    // ---- the best ones

    private static void promise24() {
        topic("24: bestFrom(): Returns the row; NONE without rows");
        ColumnSeasons x = new ColumnSeasons();
        due("without rows", x.bestFrom(), NONE);
        x.add(0, FLAG, 0);
        due("without rows, with a column", x.bestFrom(), NONE);
        x.row();
        due("one row", x.bestFrom(), 0);
        x.remove(0);
        due("without rows again", x.bestFrom(), NONE);
        for (int from = 0; from < 24; from++) {
            ColumnSeasons y = new ColumnSeasons();
            for (int row = 0; row < 24; row++) {
                if (row == from) {
                    y.add(7, FLAG, 0);
                }
                y.row();
            }
            due("the columns came with the row " + from, y.bestFrom(), from);
            y.drop(7);
            y.makeOver(23, 23);
            due("the last row has none", y.bestFrom(), 0);
        }
        for (int name = 0; name <= 7; name++) {
            ColumnSeasons y = new ColumnSeasons();
            y.row();
            y.add(name, FLAG, 0);
            y.row();
            due("a column of the name " + name + " from 1 on", y.bestFrom(), 1);
            y.makeOver(0, 0);
            due("a column of the name " + name + " from 0 on", y.bestFrom(), 0);
        }
    }

    private static void promise24OfSeveral() {
        topic("24: bestFrom(): would show most columns, of several the first one");
        due("24 rows that are alike", withRows(24).bestFrom(), 0);
        due("2 rows that are alike", withRows(2).bestFrom(), 0);
        ColumnSeasons none = new ColumnSeasons();
        none.row();
        none.row();
        due("no columns at all", none.bestFrom(), 0);
        ColumnSeasons x = new ColumnSeasons();
        x.add(0, FLAG, 0);
        x.row();
        x.add(1, FLAG, 0);
        x.row();
        x.row();
        due("two columns from 1 on", x.bestFrom(), 1);
        x.drop(0);
        x.add(2, FLAG, 0);
        x.row();
        due("1 and 2 in the last row alone", x.bestFrom(), 3);
        x.drop(2);
        x.row();
        due("1 alone, from 1 on", x.bestFrom(), 1);
        x.drop(1);
        x.add(3, FLAG, 0);
        x.row();
        due("3 alone, in the last row", x.bestFrom(), 5);
        x.kind(3, NUMBER);
        x.row();
        due("of another kind it is shown too", x.bestFrom(), 5);
        x.remove(6);
        x.remove(5);
        due("without the last two", x.bestFrom(), 1);
    }

    private static void promise25() {
        topic("25: bestSeason(): the fewest losses (values of columns that it has not, and casts that lose); "
            + "BAD_VALUE");
        ColumnSeasons x = new ColumnSeasons();
        refusedOutside("bestSeason()", 0, 1, BAD, x::bestSeason);
        due("of a new one", x.bestSeason(0), 0);
        due("its losses", x.bestSeason(1), 0);
        int[][] values = {{-1, 1, 1}, {0, 3, 0}, {1, 3, 0}, {2, 2, 1}, {9, 2, 1}, {10, 1, 1}};
        for (int[] value : values) {
            ColumnSeasons y = new ColumnSeasons();
            y.add(0, NUMBER, value[0]);
            y.row();
            y.kind(0, DIGIT);
            y.kind(0, FLAG);
            due(value[0] + " as a number, a digit, a flag", y.bestSeason(0), value[1]);
            due("no losses there", y.bestSeason(1), 0);
            due("losses of now", y.count(5), value[2]);
        }
        ColumnSeasons lost = withAllNames(24);
        lost.makeOver(0, 23);
        for (int name = 0; name <= 7; name++) {
            lost.drop(name);
        }
        due("all columns gone", lost.bestSeason(0), 8);
        due("no losses there", lost.bestSeason(1), 0);
        lost.remove(0);
        lost.row();
        due("rows without values lose nothing", lost.bestSeason(1), 0);
        for (int row = 22; row >= 0; row--) {
            lost.remove(row);
        }
        due("the latest one then", lost.bestSeason(0), 16);
    }

    private static void promise25OfSeveral() {
        topic("25: bestSeason(): of several the latest one");
        for (int seasons = 1; seasons <= 30; seasons++) {
            ColumnSeasons x = withSeasons(seasons);
            due("without rows", x.bestSeason(0), seasons - 1);
            due("its losses", x.bestSeason(1), 0);
        }
        ColumnSeasons x = new ColumnSeasons();
        x.add(0, DIGIT, 5);
        x.row();
        x.row();
        x.drop(0);
        x.add(1, DIGIT, 5);
        x.row();
        due("two lose ahead, one behind", x.bestSeason(0), 1);
        due("its losses", x.bestSeason(1), 1);
        x.row();
        due("two and two", x.bestSeason(0), 3);
        due("its losses", x.bestSeason(1), 2);
        x.row();
        due("two and three", x.bestSeason(0), 3);
        due("its losses", x.bestSeason(1), 2);
        x.add(2, FLAG, 0);
        due("one season more, like it", x.bestSeason(0), 4);
        x.drop(1);
        due("one that loses more", x.bestSeason(0), 4);
        x.add(0, DIGIT, 9);
        due("one that has the first column again", x.bestSeason(0), 4);
        x.add(1, NUMBER, 9);
        due("one that has both", x.bestSeason(0), 7);
        due("its losses", x.bestSeason(1), 0);
    }

    private static void promise25ManySeasons() {
        topic("25: bestSeason(): among 30 seasons");
        for (int best = 1; best <= 29; best++) {
            ColumnSeasons x = new ColumnSeasons();
            for (int season = 1; season <= 29; season++) {
                if (season == best) {
                    x.add(7, NUMBER, 5);
                    x.row();
                } else if (season == best + 1) {
                    x.drop(7);
                } else if (x.drop(0) == UNKNOWN) {
                    x.add(0, FLAG, 0);
                }
            }
            due("count(0)", x.count(0), 29);
            due("the only one without a loss", x.bestSeason(0), best);
            due("its losses", x.bestSeason(1), 0);
        }
        ColumnSeasons first = new ColumnSeasons();
        first.add(0, FLAG, 0);
        first.row();
        first.drop(0);
        first.forget();
        due("the season 0", first.bestSeason(0), 0);
        due("its losses", first.bestSeason(1), 0);
        due("losses of now", first.count(5), 1);
    }

    // ---- counts

    private static void promise26Arguments() {
        topic("26: count(): BAD_VALUE");
        ColumnSeasons x = new ColumnSeasons();
        refusedOutside("count()", 0, 8, BAD, x::count);
        ColumnSeasons y = withRows(24);
        refusedOutside("count()", 0, 8, BAD, y::count);
    }

    private static void promise26SeasonsAndColumns() {
        topic("26: count(): 0 for the season of now, 1 for columns of now");
        for (int seasons = 1; seasons <= 30; seasons++) {
            due("count(0) of " + seasons, withSeasons(seasons).count(0), seasons - 1);
        }
        ColumnSeasons x = new ColumnSeasons();
        for (int name = 0; name <= 7; name++) {
            due("count(1)", x.count(1), name);
            x.add(name, FLAG, 0);
        }
        due("count(1)", x.count(1), 8);
        x.kind(0, DIGIT);
        due("another kind", x.count(1), 8);
        for (int name = 0; name <= 7; name++) {
            x.drop(name);
            due("count(1)", x.count(1), 7 - name);
        }
        due("count(0)", x.count(0), 17);
        x.forget();
        due("count(0)", x.count(0), 0);
    }

    private static void promise26Rows() {
        topic("26: count(): 2 for rows, 3 for rows in the dress of now, 4 for values of all rows (in their dresses)");
        ColumnSeasons x = withAllNames(0);
        for (int row = 0; row <= 24; row++) {
            due("count(2)", x.count(2), row);
            due("count(3)", x.count(3), row);
            due("count(4)", x.count(4), 8 * row);
            x.row();
        }
        due("count(2) of 24", x.count(2), 24);
        x.drop(7);
        due("count(3), a season later", x.count(3), 0);
        due("count(4), a season later", x.count(4), 192);
        x.makeOver(0, 0);
        due("count(3), one made over", x.count(3), 1);
        due("count(4), one made over", x.count(4), 191);
        x.makeOver(0, 23);
        due("count(3), all made over", x.count(3), 24);
        due("count(4), all made over", x.count(4), 168);
        x.kind(0, NUMBER);
        x.kind(0, FLAG);
        due("count(3), the same columns in another season", x.count(3), 0);
        x.remove(23);
        due("count(2), one removed", x.count(2), 23);
        due("count(4), one removed", x.count(4), 161);
        x.row();
        due("count(3), one more", x.count(3), 1);
        ColumnSeasons none = new ColumnSeasons();
        none.row();
        due("count(3) without columns", none.count(3), 1);
        due("count(4) without columns", none.count(4), 0);
    }

    private static void promise26Losses() {
        topic("26: count(): 5 for values that would be lost by making all rows over");
        ColumnSeasons x = withAllNames(24);
        due("none", x.count(5), 0);
        for (int name = 0; name <= 7; name++) {
            x.drop(name);
            due("count(5) without 0 to " + name, x.count(5), 24 * (name + 1));
        }
        due("makeOver(0, 23)", x.makeOver(0, 23), 192);
        due("then", x.count(5), 0);
        for (int value : new int[] {-9999, -1, 0, 1, 2, 9, 10, 9999}) {
            ColumnSeasons y = new ColumnSeasons();
            y.add(0, NUMBER, value);
            y.row();
            y.kind(0, DIGIT);
            due(value + " as a digit", y.count(5), value < 0 || value > 9 ? 1 : 0);
            y.kind(0, FLAG);
            due(value + " as a flag", y.count(5), value != 0 && value != 1 ? 1 : 0);
            y.kind(0, NUMBER);
            due(value + " as a number", y.count(5), 0);
            y.drop(0);
            due(value + " without the column", y.count(5), 1);
        }
    }

    private static void promise26Names() {
        topic("26: count(): 6 for names that any season that is kept has, as a set");
        ColumnSeasons x = new ColumnSeasons();
        for (int name = 0; name <= 7; name++) {
            due("ahead of " + name, x.count(6), (1 << name) - 1);
            x.add(name, FLAG, 0);
            x.drop(name);
        }
        due("all of them had been", x.count(6), 255);
        due("columns of now", x.count(1), 0);
        x.forget();
        due("forgotten", x.count(6), 0);
        x.undo();
        due("undone", x.count(6), 255);
        x.undo();
        x.row();
        x.drop(7);
        x.forget();
        due("the season of the row and that of now", x.count(6), 128);
        x.remove(0);
        x.forget();
        due("that of now alone", x.count(6), 0);
    }

    private static void promise26HistoryAndText() {
        topic("26: count(): 7 for the states in the history, 8 for the length of the text");
        ColumnSeasons x = new ColumnSeasons();
        for (int acts = 0; acts <= 6; acts++) {
            due("count(7)", x.count(7), Math.min(acts, 4));
            x.row();
        }
        for (int left = 3; left >= 0; left--) {
            x.undo();
            due("count(7)", x.count(7), left);
        }
        x.undo();
        due("count(7)", x.count(7), 0);
        for (int length = 0; length <= 82; length++) {
            due("count(8)", x.count(8), Math.min(length, 80));
            x.type('a');
        }
        x.clearText();
        due("count(8)", x.count(8), 0);
    }
}
