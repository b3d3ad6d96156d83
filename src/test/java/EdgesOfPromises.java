/** The boundaries that the promises themselves name, promise by promise: acts, texts and the history. */
public final class EdgesOfPromises extends TestBase {
    public static void main(String[] args) {
        promise01();
        promise02();
        promise03();
        promise04();
        promise05();
        promise06Range();
        promise06Answers();
        promise07();
        promise08Arguments();
        promise08Losses();
        promise08WhoIsMadeOver();
        promise09();
        promise09Between();
        promise10();
        promise11();
        promise12Counts();
        promise12AllOrNone();
        promise12OneAct();
        promise12DoesNothing();
        promise13Arguments();
        promise13Numbers();
        promise13Latest();
        promise14();
        promise15And16();
        CHECKS.end();
    }

    private static void promise01() {
        topic("1: Creates a table without columns and rows, in the season 0");
        ColumnSeasons x = new ColumnSeasons();
        for (int what = 0; what <= 8; what++) {
            due("count(" + what + ")", x.count(what), 0);
        }
        for (int name = 0; name <= 7; name++) {
            due("column(0, " + name + ", 0)", x.column(0, name, 0), NONE);
            due("drop(" + name + ")", x.drop(name), UNKNOWN);
            due("kind(" + name + ", 0)", x.kind(name, 0), UNKNOWN);
        }
        for (int what = 0; what <= 3; what++) {
            due("season(0, " + what + ")", x.season(0, what), 0);
        }
        refusedOutside("season(.., 0)", 0, 0, UNKNOWN, season -> x.season(season, 0));
        refusedOutside("seasonOf()", 0, -1, UNKNOWN, x::seasonOf);
        due("remove(0)", x.remove(0), UNKNOWN);
        due("undo()", x.undo(), NONE);
        due("restore()", x.restore(), NONE);
        due("stopped(0)", x.stopped(0), NONE);
        due("stopped(1)", x.stopped(1), NONE);
        due("bestFrom()", x.bestFrom(), NONE);
        due("clearText()", x.clearText(), 0);
        ColumnSeasons other = new ColumnSeasons();
        other.add(0, NUMBER, 5);
        other.row();
        due("another one is another one", x.count(0), 0);
        due("another one is another one", new ColumnSeasons().count(2), 0);
    }

    private static void promise02() {
        topic("2: add(): Returns the season then; NOT_POSSIBLE if there is a column of this name now");
        ColumnSeasons x = new ColumnSeasons();
        due("add(0, 0, 0)", x.add(0, FLAG, 0), 1);
        due("add(0, 0, 0)", x.add(0, FLAG, 0), NOT_POSSIBLE);
        due("drop(0)", x.drop(0), 2);
        due("a column that was, but is not now", x.add(0, NUMBER, 9999), 3);
        due("the earlier one stays", x.column(1, 0, 1), 0);
        due("and the one of now", x.column(3, 0, 1), 9999);
        due("add(7, 1, 9)", x.add(7, DIGIT, 9), 4);
        x.undo();
        due("a column that was undone", x.add(7, DIGIT, 8), 4);
        due("its default", x.column(4, 7, 1), 8);
        due("the other columns stay", x.season(4, 1), 129);
    }

    private static void promise03() {
        topic("3: drop(): UNKNOWN (also if there is no column of this name now)");
        ColumnSeasons x = new ColumnSeasons();
        for (int name = 0; name <= 7; name++) {
            x.add(name, FLAG, 1);
        }
        x.row();
        for (int name = 0; name <= 7; name++) {
            due("drop(" + name + ")", x.drop(name), 9 + name);
            due("drop(" + name + ") again", x.drop(name), UNKNOWN);
            due("columns that are left", x.season(9 + name, 0), 7 - name);
        }
        refusedOutside("drop()", 0, 7, UNKNOWN, x::drop);
        due("a column that a row has, but not the season of now", x.drop(3), UNKNOWN);
        due("value(0, 3)", x.value(0, 3), 1);
        due("count(0)", x.count(0), 16);
        due("drop(0) with 29 seasons", withSeasons(29).drop(0), 29);
        due("drop(0) with 30 seasons", withSeasons(30).drop(0), FULL);
        due("drop(2) with 30 seasons", withSeasons(30).drop(2), UNKNOWN);
    }

    private static void promise04() {
        topic("4: kind(): UNKNOWN (also if there is no column of this name now); NONE if it is so already");
        ColumnSeasons x = new ColumnSeasons();
        x.add(0, NUMBER, 10);
        due("as it is", x.kind(0, NUMBER), NONE);
        due("narrower", x.kind(0, DIGIT), 2);
        due("as it is", x.kind(0, DIGIT), NONE);
        due("narrower", x.kind(0, FLAG), 3);
        due("as it is", x.kind(0, FLAG), NONE);
        due("wider", x.kind(0, NUMBER), 4);
        due("the default does not come back", x.column(4, 0, 1), 1);
        x.drop(0);
        due("a column that was", x.kind(0, NUMBER), UNKNOWN);
        due("a column that was", x.kind(0, FLAG), UNKNOWN);
        due("a column that never was", x.kind(7, FLAG), UNKNOWN);
        x.add(7, NUMBER, -9999);
        x.add(6, DIGIT, 3);
        due("kind(7, 1)", x.kind(7, DIGIT), 8);
        due("its default", x.column(8, 7, 1), 0);
        due("the other column's kind stays", x.column(8, 6, 0), DIGIT);
        due("the other column's default stays", x.column(8, 6, 1), 3);
        due("kind() with 29 seasons", withSeasons(29).kind(0, FLAG), 29);
        due("kind() with 29 seasons, as it is", withSeasons(29).kind(0, NUMBER), NONE);
        due("kind() with 30 seasons", withSeasons(30).kind(0, FLAG), FULL);
        due("kind() with 30 seasons, as it is", withSeasons(30).kind(0, NUMBER), FULL);
    }

    private static void promise05() {
        topic("5: row(): Returns its number; FULL if there are 24");
        for (int rows = 0; rows <= 24; rows++) {
            ColumnSeasons x = withRows(rows);
            due("row() with " + rows, x.row(), rows < 24 ? rows : FULL);
            due("count(2)", x.count(2), Math.min(rows + 1, 24));
            due("its season", x.seasonOf(Math.min(rows, 23)), 1);
            due("its value", x.value(Math.min(rows, 23), 0), rows < 24 ? 0 : 23);
            due("the row 0", x.value(0, 0), 0);
        }
        ColumnSeasons x = withRows(24);
        x.add(1, FLAG, 1);
        due("row() of 24 in another season", x.row(), FULL);
        x.remove(11);
        due("row() of 23", x.row(), 23);
        due("its season", x.seasonOf(23), 2);
        due("row() of 24", x.row(), FULL);
        x.undo();
        x.undo();
        due("row() of 24, undone", x.row(), FULL);
    }

    private static void promise06Range() {
        topic("6: set(): in the range of the kind that the column has there");
        for (int kind = FLAG; kind <= NUMBER; kind++) {
            ColumnSeasons x = new ColumnSeasons();
            x.add(5, kind, 0);
            x.row();
            // The kind of now is another one; that of the row counts.
            x.kind(5, (kind + 1) % 3);
            int least = LEAST_OF_KIND[kind];
            int greatest = GREATEST_OF_KIND[kind];
            refusedOutside("set(0, 5, ..) of kind " + kind, least, greatest, BAD, value -> x.set(0, 5, value));
            due("value(0, 5)", x.value(0, 5), 0);
            due("greatest", x.set(0, 5, greatest), 0);
            due("value(0, 5)", x.value(0, 5), greatest);
            due("1 less than the greatest", x.set(0, 5, greatest - 1), greatest);
            due("value(0, 5)", x.value(0, 5), greatest - 1);
            due("least", x.set(0, 5, least), least == greatest - 1 ? NONE : greatest - 1);
            due("value(0, 5)", x.value(0, 5), least);
            due("1 more than the least", x.set(0, 5, least + 1), least);
            due("value(0, 5)", x.value(0, 5), least + 1);
            due("the default stays", x.column(1, 5, 1), 0);
        }
    }

    private static void promise06Answers() {
        topic("6: set(): Returns the previous value; UNKNOWN (row or name); NONE if it is so already");
        ColumnSeasons x = withRows(24);
        x.add(7, FLAG, 1);
        refusedOutside("set(.., 0, 5)", 0, 23, UNKNOWN, row -> x.set(row, 0, 5));
        refusedOutside("set(3, .., 5)", 0, 7, UNKNOWN, name -> x.set(3, name, 5));
        for (int name = 1; name <= 7; name++) {
            due("no column of its dress, " + name, x.set(3, name, 0), UNKNOWN);
        }
        for (int row = 0; row < 24; row++) {
            due("as it is", x.set(row, 0, row), NONE);
            due("set(" + row + ", 0, -9999)", x.set(row, 0, -9999), row);
            due("as it is", x.set(row, 0, -9999), NONE);
            due("the previous value -9999", x.set(row, 0, 9999), -9999);
            due("the previous value 9999", x.set(row, 0, 100 + row), 9999);
        }
        for (int row = 0; row < 24; row++) {
            due("value(" + row + ", 0)", x.value(row, 0), 100 + row);
        }
        due("count(7)", x.count(7), 4);
        ColumnSeasons none = new ColumnSeasons();
        none.add(0, FLAG, 0);
        due("set() without rows", none.set(0, 0, 0), UNKNOWN);
        none.row();
        none.add(7, DIGIT, 4);
        none.row();
        due("set() of the last name", none.set(1, 7, 9), 4);
        due("value(1, 7)", none.value(1, 7), 9);
        due("value(1, 0)", none.value(1, 0), 0);
    }

    private static void promise07() {
        topic("7: remove(): Returns how many are left; UNKNOWN");
        ColumnSeasons x = withRows(24);
        refusedOutside("remove()", 0, 23, UNKNOWN, x::remove);
        for (int left = 23; left >= 0; left--) {
            due("remove() behind the last one", x.remove(left + 1), UNKNOWN);
            due("remove() of the last one", x.remove(left), left);
        }
        due("remove(0) of none", x.remove(0), UNKNOWN);
        ColumnSeasons first = withRows(24);
        for (int left = 23; left >= 0; left--) {
            due("the first one is", first.value(0, 0), 23 - left);
            due("remove(0)", first.remove(0), left);
            due("the last one is", first.value(left - 1, 0), left == 0 ? UNKNOWN : 23);
        }
        due("remove(0) of none", first.remove(0), UNKNOWN);
    }

    private static void promise08Arguments() {
        topic("8: makeOver(): from: a row, to: a row, not before from");
        ColumnSeasons x = withRows(24);
        x.add(1, FLAG, 1);
        refusedOutside("makeOver(.., 23)", 0, 23, UNKNOWN, from -> x.makeOver(from, 23));
        refusedOutside("makeOver(0, ..)", 0, 23, UNKNOWN, to -> x.makeOver(0, to));
        due("to is 1 before from", x.makeOver(23, 22), BAD);
        due("to is far before from", x.makeOver(23, 0), BAD);
        due("to is 1 before from", x.makeOver(1, 0), BAD);
        due("none is made over", x.count(3), 0);
        due("the last one alone", x.makeOver(23, 23), 0);
        due("count(3)", x.count(3), 1);
        due("value(23, 1)", x.value(23, 1), 1);
        due("value(22, 1)", x.value(22, 1), NONE);
        due("the first one alone", x.makeOver(0, 0), 0);
        due("value(0, 1)", x.value(0, 1), 1);
        due("value(1, 1)", x.value(1, 1), NONE);
        due("two behind each other", x.makeOver(1, 2), 0);
        due("value(2, 1)", x.value(2, 1), 1);
        due("value(3, 1)", x.value(3, 1), NONE);
        due("all", x.makeOver(0, 23), 0);
        due("count(3)", x.count(3), 24);
        for (int row = 0; row < 24; row++) {
            due("value(" + row + ", 0)", x.value(row, 0), row);
        }
        due("without rows", new ColumnSeasons().makeOver(0, 0), UNKNOWN);
        due("with one", withRows(1).makeOver(0, 1), UNKNOWN);
        due("with one", withRows(1).makeOver(0, 0), NONE);
    }

    private static void promise08Losses() {
        topic("8: Returns in how many values something was lost (those of columns that the dress of now has not, "
            + "and those whose cast loses)");
        ColumnSeasons all = new ColumnSeasons();
        for (int name = 0; name <= 7; name++) {
            all.add(name, FLAG, 0);
        }
        perform(all, "row;row;row;row;row;row;row;row;row;row;row;row");
        all.perform();
        for (int name = 0; name <= 7; name++) {
            all.drop(name);
        }
        due("all that there can be", all.makeOver(0, 23), 192);
        due("again", all.makeOver(0, 23), NONE);
        all.undo();
        for (int name = 0; name <= 7; name++) {
            all.add(name, NUMBER, 5);
        }
        due("all columns came again, wider", all.makeOver(0, 23), 0);
        due("value(23, 7)", all.value(23, 7), 0);
        ColumnSeasons x = new ColumnSeasons();
        x.add(0, NUMBER, 0);
        x.add(1, NUMBER, 0);
        perform(x, "row;row;row;row;row;row");
        int[] values = {-1, 0, 1, 2, 9, 10};
        for (int row = 0; row < 6; row++) {
            x.set(row, 0, values[row]);
        }
        x.drop(1);
        x.kind(0, DIGIT);
        int[] lost = {2, 1, 1, 1, 1, 2};
        int[] lostOfFlags = {2, 1, 1, 2, 2, 2};
        for (int row = 0; row < 6; row++) {
            due("as a digit " + values[row], x.makeOver(row, row), lost[row]);
            x.undo();
        }
        x.kind(0, FLAG);
        for (int row = 0; row < 6; row++) {
            due("as a flag " + values[row], x.makeOver(row, row), lostOfFlags[row]);
            x.undo();
        }
        due("the first ones", x.makeOver(0, 2), 4);
        due("those that are of now lose nothing", x.makeOver(0, 5), 6);
    }

    private static void promise08WhoIsMadeOver() {
        topic("8: NONE if all of them have the dress of now (their season is that of now)");
        for (int other = 0; other <= 2; other++) {
            ColumnSeasons x = withRows(3);
            x.add(1, FLAG, 1);
            x.makeOver(0, 2);
            due("all of them", x.makeOver(0, 2), NONE);
            x.kind(1, NUMBER);
            for (int row = 0; row <= 2; row++) {
                if (row != other) {
                    x.makeOver(row, row);
                }
            }
            due("all but one", x.makeOver(0, 2), 0);
            due("seasonOf(" + other + ")", x.seasonOf(other), 3);
            due("all of them", x.makeOver(0, 2), NONE);
        }
        ColumnSeasons alike = withRows(1);
        alike.add(1, FLAG, 0);
        alike.drop(1);
        due("the same columns, but not the season of now", alike.makeOver(0, 0), 0);
        due("seasonOf(0)", alike.seasonOf(0), 3);
        due("the season of now", alike.makeOver(0, 0), NONE);
        ColumnSeasons zero = new ColumnSeasons();
        zero.row();
        due("no columns, the season of now", zero.makeOver(0, 0), NONE);
        zero.add(0, FLAG, 0);
        zero.drop(0);
        due("no columns, not the season of now", zero.makeOver(0, 0), 0);
    }

    // ---- forget

    private static void promise09() {
        topic("9: Forgets the oldest seasons, but for the latest one; NONE if none is");
        for (int seasons = 1; seasons <= 30; seasons++) {
            ColumnSeasons x = withSeasons(seasons);
            int names = x.season(seasons - 1, 1);
            due("forget() of " + seasons, x.forget(), seasons == 1 ? NONE : seasons - 1);
            due("count(0)", x.count(0), 0);
            due("season(0, 1)", x.season(0, 1), names);
            due("season(0, 3)", x.season(0, 3), 0);
            due("season(1, 0)", x.season(1, 0), UNKNOWN);
            due("again", x.forget(), NONE);
        }
        ColumnSeasons now = withSeasons(30);
        now.row();
        due("a row in the latest season", now.forget(), 29);
        due("seasonOf(0)", now.seasonOf(0), 0);
        due("value(0, 0)", now.value(0, 0), 0);
        now.undo();
        due("seasonOf(0), undone", now.seasonOf(0), 29);
        ColumnSeasons first = new ColumnSeasons();
        first.row();
        first.add(0, FLAG, 1);
        first.add(1, FLAG, 1);
        due("a row in the oldest season", first.forget(), NONE);
        first.makeOver(0, 0);
        due("it is made over", first.forget(), 2);
        due("seasonOf(0)", first.seasonOf(0), 0);
    }

    private static void promise09Between() {
        topic("9: as far as they are the season of no row: the numbers of the others become less");
        for (int held = 1; held <= 4; held++) {
            ColumnSeasons x = new ColumnSeasons();
            for (int season = 1; season <= 5; season++) {
                x.add(season, NUMBER, 10 * season);
                if (season == held || season == 4) {
                    x.row();
                }
            }
            due("forget() up to " + held, x.forget(), held);
            due("count(0)", x.count(0), 5 - held);
            due("seasonOf(0)", x.seasonOf(0), 0);
            due("seasonOf() of the last row", x.seasonOf(x.count(2) - 1), 4 - held);
            for (int season = held; season <= 5; season++) {
                due("columns of " + season, x.season(season - held, 0), season);
                due("default of its last one", x.column(season - held, season, 1), 10 * season);
            }
            due("value of the first row", x.value(0, held), 10 * held);
            due("value of the last row", x.value(x.count(2) - 1, 4), 40);
            due("again", x.forget(), NONE);
            due("a season more", x.add(0, FLAG, 0), 6 - held);
        }
        ColumnSeasons x = new ColumnSeasons();
        x.add(0, FLAG, 0);
        x.row();
        x.add(1, FLAG, 0);
        x.row();
        x.remove(0);
        due("a row that is no more", x.forget(), 2);
        x.undo();
        x.undo();
        due("it is again", x.forget(), 1);
        due("seasonOf(1)", x.seasonOf(1), 1);
    }

    // ---- texts

    private static void promise10() {
        topic("10: type(): Returns the length of the text then; FULL if it has 80 characters");
        ColumnSeasons x = new ColumnSeasons();
        for (int length = 1; length <= 80; length++) {
            due("type()", x.type((char) (length * 819)), length);
        }
        for (int times = 0; times < 3; times++) {
            due("type()", x.type('a'), FULL);
        }
        due("count(8)", x.count(8), 80);
        due("perform()", x.perform(), -10100);
        due("count(8)", x.count(8), 80);
    }

    private static void promise11() {
        topic("11: clearText(): Empties the text; returns the length that it had");
        for (int length = 0; length <= 81; length++) {
            ColumnSeasons x = new ColumnSeasons();
            write(x, "r".repeat(length));
            due("clearText() of " + length, x.clearText(), Math.min(length, 80));
            due("clearText() again", x.clearText(), 0);
            due("type()", x.type('x'), 1);
        }
    }

    private static void promise12Counts() {
        topic("12: perform(): Returns how many commands there are; the text stays");
        ColumnSeasons x = new ColumnSeasons();
        due("none", x.perform(), -10100);
        due("one", perform(x, "row"), 1);
        due("one, once more", x.perform(), 1);
        due("count(8)", x.count(8), 3);
        due("count(2)", x.count(2), 2);
        due("twenty", perform(x, "row;".repeat(19) + "row"), 20);
        due("count(8)", x.count(8), 79);
        due("count(2)", x.count(2), 22);
        due("twenty, of which two have room", x.perform(), NOT_POSSIBLE);
        due("count(8)", x.count(8), 79);
        due("count(2)", x.count(2), 22);
        due("two", perform(x, "row;row"), 2);
        due("one", perform(x, "row"), NOT_POSSIBLE);
        due("with a fault", perform(x, "row;"), -10104);
        due("count(8)", x.count(8), 4);
        due("the text goes on", x.type('r'), 5);
        due("with a fault", x.perform(), -10105);
    }

    private static void promise12AllOrNone() {
        topic("12: all of them, or none");
        String[] commands = {"row", "set 0 0 7", "add 1 flag", "kind 0 digit", "drop 0"};
        for (int stop = 0; stop <= commands.length; stop++) {
            StringBuilder text = new StringBuilder();
            for (int i = 0; i <= commands.length; i++) {
                text.append(i == 0 ? "" : ";");
                text.append(i == stop ? "drop 7" : commands[i < stop ? i : i - 1]);
            }
            ColumnSeasons x = withRows(1);
            due("'" + text + "'", perform(x, text.toString()), NOT_POSSIBLE);
            due("stopped(0)", x.stopped(0), stop);
            due("stopped(1)", x.stopped(1), UNKNOWN);
            due("count(0)", x.count(0), 1);
            due("count(2)", x.count(2), 1);
            due("value(0, 0)", x.value(0, 0), 0);
            due("column(1, 0, 0)", x.column(1, 0, 0), NUMBER);
            due("count(7)", x.count(7), 2);
        }
        ColumnSeasons x = withRows(1);
        due("without the stop", perform(x, String.join(";", commands)), 5);
        due("count(0)", x.count(0), 4);
        due("count(2)", x.count(2), 2);
        due("value(0, 0)", x.value(0, 0), 7);
    }

    private static void promise12OneAct() {
        topic("12: This is one act");
        for (int before = 0; before <= 5; before++) {
            ColumnSeasons x = new ColumnSeasons();
            for (int act = 0; act < before; act++) {
                x.row();
            }
            due("perform()", perform(x, "row;row;add 0 flag;row"), 4);
            due("count(7)", x.count(7), Math.min(before + 1, 4));
            due("undo()", x.undo(), Math.min(before, 3));
            due("count(2)", x.count(2), before);
            due("count(0)", x.count(0), 0);
            due("a stop", perform(x, "row;drop 0"), NOT_POSSIBLE);
            due("a fault", perform(x, "row;drop 0;"), -10111);
            due("count(7)", x.count(7), Math.min(before, 3));
        }
    }

    private static void promise12DoesNothing() {
        topic("12: A command that does nothing (it would return NONE) does not stop it; an error stops it");
        ColumnSeasons x = withRows(2);
        due("first", perform(x, "set 1 0 1;set 0 0 5"), 2);
        due("value(0, 0)", x.value(0, 0), 5);
        due("last", perform(x, "set 1 0 6;kind 0 number"), 2);
        due("value(1, 0)", x.value(1, 0), 6);
        due("between two", perform(x, "set 1 0 7;kind 0 number;set 0 0 8"), 3);
        due("value(0, 0)", x.value(0, 0), 8);
        due("count(7)", x.count(7), 4);
        due("nothing at all", perform(x, "set 1 0 7"), 1);
        due("count(7)", x.count(7), 4);
        due("undo() of nothing", x.undo(), 3);
        due("value(0, 0)", x.value(0, 0), 8);
        due("none was stopped", x.stopped(0), NONE);
        due("undo()", x.undo(), 2);
        due("value(0, 0)", x.value(0, 0), 5);
        due("kind as it is with 29 seasons", perform(withSeasons(29), "kind 0 number"), 1);
        due("kind as it is with 30 seasons", perform(withSeasons(30), "kind 0 number"), NOT_POSSIBLE);
        due("set as it is with 30 seasons", perform(withSeasons(30), "row;set 0 0 0"), 2);
    }

    // ---- stopped

    private static void promise13Arguments() {
        topic("13: stopped(): 0 for the number of the command, 1 for the error; BAD_VALUE; "
            + "NONE if none was stopped yet");
        ColumnSeasons x = new ColumnSeasons();
        due("stopped(0)", x.stopped(0), NONE);
        due("stopped(1)", x.stopped(1), NONE);
        refusedOutside("stopped() ahead of a stop", 0, 1, BAD, x::stopped);
        perform(x, "drop 3");
        due("stopped(0)", x.stopped(0), 0);
        due("stopped(1)", x.stopped(1), UNKNOWN);
        refusedOutside("stopped() behind a stop", 0, 1, BAD, x::stopped);
    }

    private static void promise13Numbers() {
        topic("13: the number of the command in its text, from 0");
        for (int rows = 4; rows <= 24; rows++) {
            ColumnSeasons x = withRows(rows);
            int answer = perform(x, "row;".repeat(19) + "row");
            due("20 rows more with " + rows, answer, rows == 4 ? 20 : NOT_POSSIBLE);
            due("stopped(0)", x.stopped(0), rows == 4 ? NONE : 24 - rows);
            due("stopped(1)", x.stopped(1), rows == 4 ? NONE : FULL);
            due("count(2)", x.count(2), rows == 4 ? 24 : rows);
        }
        for (int seasons = 28; seasons <= 30; seasons++) {
            ColumnSeasons x = withSeasons(seasons);
            due("3 seasons more with " + seasons, perform(x, "add 5 flag;kind 5 digit;drop 5"), NOT_POSSIBLE);
            due("stopped(0)", x.stopped(0), 30 - seasons);
            due("stopped(1)", x.stopped(1), FULL);
        }
        due("3 seasons more with 27", perform(withSeasons(27), "add 5 flag;kind 5 digit;drop 5"), 3);
    }

    private static void promise13Latest() {
        topic("13: Tells of the latest stop of perform()");
        ColumnSeasons x = new ColumnSeasons();
        perform(x, "row;row;drop 0");
        due("stopped(0)", x.stopped(0), 2);
        due("stopped(1)", x.stopped(1), UNKNOWN);
        perform(x, "add 0 flag;add 0 flag");
        due("stopped(0)", x.stopped(0), 1);
        due("stopped(1)", x.stopped(1), NOT_POSSIBLE);
        perform(x, "row;row;add 0 flag;set 0 0 2");
        due("stopped(0)", x.stopped(0), 3);
        due("stopped(1)", x.stopped(1), UNKNOWN);
        perform(x, "add 0 flag;row;set 0 0 2");
        due("stopped(0)", x.stopped(0), 2);
        due("stopped(1)", x.stopped(1), BAD);
        perform(x, "row");
        due("a performance that is done", x.stopped(0), 2);
        perform(x, "drop 0;");
        due("a fault", x.stopped(1), BAD);
        x.clearText();
        x.perform();
        due("the empty text", x.stopped(1), BAD);
        x.drop(0);
        x.row();
        due("an error of another call", x.stopped(1), BAD);
        perform(x, "drop 7");
        due("stopped(0)", x.stopped(0), 0);
        due("stopped(1)", x.stopped(1), UNKNOWN);
    }

    // ---- history

    private static void promise14() {
        topic("14: undo(): Returns the number of states that are left; NONE if the history is empty");
        for (int acts = 0; acts <= 6; acts++) {
            ColumnSeasons x = new ColumnSeasons();
            for (int act = 0; act < acts; act++) {
                x.add(act, NUMBER, act);
            }
            int kept = Math.min(acts, 4);
            for (int left = kept - 1; left >= 0; left--) {
                due("undo()", x.undo(), left);
                due("count(0)", x.count(0), acts - kept + left);
                due("count(1)", x.count(1), acts - kept + left);
            }
            for (int times = 0; times < 3; times++) {
                due("undo() of none", x.undo(), NONE);
            }
            due("count(0)", x.count(0), acts - kept);
            x.row();
            due("count(7)", x.count(7), 1);
            due("undo()", x.undo(), 0);
            due("count(2)", x.count(2), 0);
        }
    }

    private static void promise15And16() {
        topic("15 and 16: keep() and restore(): Returns how many rows there are (then); NONE if there is no snapshot");
        for (int rows = 0; rows <= 24; rows++) {
            ColumnSeasons x = withRows(rows);
            due("restore() without a snapshot", x.restore(), NONE);
            due("count(2)", x.count(2), rows);
            due("keep()", x.keep(), rows);
            x.forget();
            x.row();
            x.drop(0);
            due("restore()", x.restore(), rows);
            due("count(0)", x.count(0), 1);
            due("the last row", x.value(rows - 1, 0), rows == 0 ? UNKNOWN : rows - 1);
            due("keep() again", x.keep(), rows);
        }
    }
}
