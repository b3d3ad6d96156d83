/** One method for each promise of the document: ordinary inputs, the edges that it names, and wrong inputs. */
public final class PromiseTests extends TestBase {
    public static void main(String[] args) {
        promise01NewObject();
        promise02Add();
        promise03Drop();
        promise04Kind();
        promise05Row();
        promise06Set();
        promise07Remove();
        promise08MakeOver();
        promise09Forget();
        promise10Type();
        promise11ClearText();
        promise12PerformFaults();
        promise12PerformCommands();
        promise12PerformAllOrNone();
        promise13Stopped();
        promise14Undo();
        promise14UndoOfEachAct();
        promise15Keep();
        promise16Restore();
        promise17Column();
        promise18Season();
        promise18SeasonWithoutRemovedRows();
        promise19Value();
        promise20Read();
        promise21SeasonOf();
        promise22View();
        promise23ViewColumn();
        promise24BestFrom();
        promise25BestSeason();
        promise26Count();
        CHECKS.end();
    }

    private static void promise01NewObject() {
        CHECKS.topic("promise 1");
        ColumnSeasons x = new ColumnSeasons();
        for (int what = 0; what <= 8; what++) {
            due("count(" + what + ")", x.count(what), 0);
        }
        due("season(0, 0)", x.season(0, 0), 0);
        due("season(1, 0)", x.season(1, 0), UNKNOWN);
        due("seasonOf(0)", x.seasonOf(0), UNKNOWN);
        due("undo()", x.undo(), NONE);
        due("restore()", x.restore(), NONE);
        due("stopped(0)", x.stopped(0), NONE);
        due("UNKNOWN", UNKNOWN, -10001);
        due("BAD_VALUE", BAD, -10002);
        due("FULL", FULL, -10003);
        due("NOT_POSSIBLE", NOT_POSSIBLE, -10004);
        due("NONE", NONE, -10005);
    }

    private static void promise02Add() {
        CHECKS.topic("promise 2");
        ColumnSeasons x = new ColumnSeasons();
        due("add(0, 0, 1)", x.add(0, FLAG, 1), 1);
        due("add(7, 1, 9)", x.add(7, DIGIT, 9), 2);
        due("add(3, 2, -9999)", x.add(3, NUMBER, -9999), 3);
        due("add(4, 2, 9999)", x.add(4, NUMBER, 9999), 4);
        due("column(4, 0, 0)", x.column(4, 0, 0), FLAG);
        due("column(4, 0, 1)", x.column(4, 0, 1), 1);
        due("column(4, 7, 0)", x.column(4, 7, 0), DIGIT);
        due("column(4, 7, 1)", x.column(4, 7, 1), 9);
        due("column(4, 3, 0)", x.column(4, 3, 0), NUMBER);
        due("column(4, 3, 1)", x.column(4, 3, 1), -9999);
        due("column(2, 3, 0)", x.column(2, 3, 0), NONE);
        due("history", x.count(7), 4);
        due("add(-1, 3, 0)", x.add(-1, 3, 0), UNKNOWN);
        due("add(8, 0, 0)", x.add(8, 0, 0), UNKNOWN);
        due("add(0, 3, 0)", x.add(0, 3, 0), BAD);
        due("add(0, -1, 0)", x.add(0, -1, 0), BAD);
        due("add(0, 0, 2)", x.add(0, FLAG, 2), BAD);
        due("add(1, 0, -1)", x.add(1, FLAG, -1), BAD);
        due("add(1, 1, 10)", x.add(1, DIGIT, 10), BAD);
        due("add(1, 1, -1)", x.add(1, DIGIT, -1), BAD);
        due("add(1, 2, 10000)", x.add(1, NUMBER, 10000), BAD);
        due("add(1, 2, -10000)", x.add(1, NUMBER, -10000), BAD);
        due("add(1, 2, least int)", x.add(1, NUMBER, Integer.MIN_VALUE), BAD);
        due("add(0, 2, 5)", x.add(0, NUMBER, 5), NOT_POSSIBLE);
        due("now", x.count(0), 4);
        ColumnSeasons full = fullOfSeasons();
        due("now", full.count(0), 29);
        due("add(1, 0, 0) when full", full.add(1, FLAG, 0), FULL);
        due("add(0, 0, 0) when full", full.add(0, FLAG, 0), NOT_POSSIBLE);
        due("add(1, 0, 2) when full", full.add(1, FLAG, 2), BAD);
        due("now", full.count(0), 29);
        full.forget();
        due("add(1, 0, 0) after forget()", full.add(1, FLAG, 0), 1);
    }

    private static void promise03Drop() {
        CHECKS.topic("promise 3");
        ColumnSeasons x = new ColumnSeasons();
        due("drop(0)", x.drop(0), UNKNOWN);
        x.add(0, DIGIT, 3);
        x.add(1, FLAG, 1);
        x.row();
        due("drop(0)", x.drop(0), 3);
        due("column(3, 0, 0)", x.column(3, 0, 0), NONE);
        due("column(3, 1, 1)", x.column(3, 1, 1), 1);
        due("column(2, 0, 0)", x.column(2, 0, 0), DIGIT);
        due("value(0, 0)", x.value(0, 0), 3);
        due("drop(0)", x.drop(0), UNKNOWN);
        due("drop(-1)", x.drop(-1), UNKNOWN);
        due("drop(8)", x.drop(8), UNKNOWN);
        due("history", x.count(7), 4);
        due("undo()", x.undo(), 3);
        due("column(2, 0, 0)", x.column(2, 0, 0), DIGIT);
        due("now", x.count(0), 2);
        ColumnSeasons full = fullOfSeasons();
        due("drop(0) when full", full.drop(0), FULL);
        due("drop(1) when full", full.drop(1), UNKNOWN);
    }

    private static void promise04Kind() {
        CHECKS.topic("promise 4");
        ColumnSeasons x = new ColumnSeasons();
        due("kind(0, 0)", x.kind(0, 0), UNKNOWN);
        x.add(0, NUMBER, 500);
        due("kind(0, 1)", x.kind(0, DIGIT), 2);
        due("default", x.column(2, 0, 1), 9);
        due("kind", x.column(2, 0, 0), DIGIT);
        due("kind before", x.column(1, 0, 0), NUMBER);
        due("default before", x.column(1, 0, 1), 500);
        due("kind(0, 0)", x.kind(0, FLAG), 3);
        due("default", x.column(3, 0, 1), 1);
        due("kind(0, 2)", x.kind(0, NUMBER), 4);
        due("default", x.column(4, 0, 1), 1);
        due("kind(0, 2)", x.kind(0, NUMBER), NONE);
        due("history", x.count(7), 4);
        due("kind(0, 3)", x.kind(0, 3), BAD);
        due("kind(0, -1)", x.kind(0, -1), BAD);
        due("kind(1, 3)", x.kind(1, 3), UNKNOWN);
        due("kind(8, 0)", x.kind(8, 0), UNKNOWN);
        due("kind(-1, 0)", x.kind(-1, 0), UNKNOWN);
        x.add(2, NUMBER, -4);
        x.kind(2, DIGIT);
        due("default of -4 as a digit", x.column(6, 2, 1), 0);
        x.add(3, NUMBER, -4);
        x.kind(3, FLAG);
        due("default of -4 as a flag", x.column(8, 3, 1), 1);
        x.undo();
        due("undone", x.column(7, 3, 0), NUMBER);
        ColumnSeasons full = fullOfSeasons();
        due("kind(0, 1) when full", full.kind(0, DIGIT), FULL);
        due("kind(0, 2) when full", full.kind(0, NUMBER), FULL);
        due("kind(0, 3) when full", full.kind(0, 3), BAD);
        due("kind(1, 3) when full", full.kind(1, 3), UNKNOWN);
    }

    private static void promise05Row() {
        CHECKS.topic("promise 5");
        ColumnSeasons x = new ColumnSeasons();
        due("row()", x.row(), 0);
        due("seasonOf(0)", x.seasonOf(0), 0);
        x.add(0, NUMBER, -7);
        x.add(5, DIGIT, 4);
        due("row()", x.row(), 1);
        due("seasonOf(1)", x.seasonOf(1), 2);
        due("value(1, 0)", x.value(1, 0), -7);
        due("value(1, 5)", x.value(1, 5), 4);
        due("value(0, 0)", x.value(0, 0), NONE);
        due("history", x.count(7), 4);
        x.undo();
        due("rows", x.count(2), 1);
        for (int i = 1; i < 24; i++) {
            due("row()", x.row(), i);
        }
        due("row() when full", x.row(), FULL);
        due("rows", x.count(2), 24);
        x.remove(3);
        due("row()", x.row(), 23);
        ColumnSeasons again = withRows(2);
        again.remove(1);
        due("row() in the place of one that was", again.row(), 1);
        due("its value", again.value(1, 0), 0);
    }

    private static void promise06Set() {
        CHECKS.topic("promise 6");
        ColumnSeasons x = new ColumnSeasons();
        x.add(0, FLAG, 1);
        x.add(1, DIGIT, 5);
        x.add(2, NUMBER, -9999);
        x.row();
        x.row();
        due("set(0, 0, 0)", x.set(0, 0, 0), 1);
        due("set(0, 1, 9)", x.set(0, 1, 9), 5);
        due("set(0, 1, 0)", x.set(0, 1, 0), 9);
        due("set(0, 2, 9999)", x.set(0, 2, 9999), -9999);
        due("the least previous value is no error", x.undo(), 3);
        due("value(0, 2)", x.value(0, 2), -9999);
        x.set(0, 2, 9999);
        due("value(0, 2)", x.value(0, 2), 9999);
        due("value(1, 2)", x.value(1, 2), -9999);
        due("set(0, 2, 9999)", x.set(0, 2, 9999), NONE);
        due("set(0, 2, -9999)", x.set(0, 2, -9999), 9999);
        due("set(0, 0, 2)", x.set(0, 0, 2), BAD);
        due("set(0, 0, -1)", x.set(0, 0, -1), BAD);
        due("set(0, 1, 10)", x.set(0, 1, 10), BAD);
        due("set(0, 2, 10000)", x.set(0, 2, 10000), BAD);
        due("set(0, 2, -10000)", x.set(0, 2, -10000), BAD);
        due("set(2, 0, 0)", x.set(2, 0, 0), UNKNOWN);
        due("set(-1, 0, 0)", x.set(-1, 0, 0), UNKNOWN);
        due("set(0, 3, 0)", x.set(0, 3, 0), UNKNOWN);
        due("set(0, 8, 0)", x.set(0, 8, 0), UNKNOWN);
        due("set(0, -1, 0)", x.set(0, -1, 0), UNKNOWN);
        due("set(0, 3, 10000)", x.set(0, 3, 10000), UNKNOWN);
        x.kind(0, NUMBER);
        x.drop(1);
        x.add(4, DIGIT, 0);
        due("set in the row's own dress", x.set(0, 0, 5), BAD);
        due("set a dropped column in an old row", x.set(0, 1, 7), 0);
        due("set a new column in an old row", x.set(0, 4, 1), UNKNOWN);
    }

    private static void promise07Remove() {
        CHECKS.topic("promise 7");
        ColumnSeasons x = new ColumnSeasons();
        due("remove(0)", x.remove(0), UNKNOWN);
        x.row();
        x.add(0, NUMBER, 10);
        x.row();
        x.add(1, FLAG, 1);
        x.row();
        x.set(2, 0, 20);
        due("remove(3)", x.remove(3), UNKNOWN);
        due("remove(-1)", x.remove(-1), UNKNOWN);
        due("remove(0)", x.remove(0), 2);
        due("seasonOf(0)", x.seasonOf(0), 1);
        due("seasonOf(1)", x.seasonOf(1), 2);
        due("value(0, 0)", x.value(0, 0), 10);
        due("value(1, 0)", x.value(1, 0), 20);
        due("value(1, 1)", x.value(1, 1), 1);
        due("seasonOf(2)", x.seasonOf(2), UNKNOWN);
        due("remove(1)", x.remove(1), 1);
        due("value(0, 0)", x.value(0, 0), 10);
        due("remove(0)", x.remove(0), 0);
        due("undo()", x.undo(), 3);
        due("value(0, 0)", x.value(0, 0), 10);
        ColumnSeasons full = withRows(24);
        due("remove(0) of 24", full.remove(0), 23);
        due("value(22, 0)", full.value(22, 0), 23);
        due("remove(22) of 23", full.remove(22), 22);
        due("value(21, 0)", full.value(21, 0), 22);
    }

    private static void promise08MakeOver() {
        CHECKS.topic("promise 8");
        ColumnSeasons x = new ColumnSeasons();
        due("makeOver(0, 0)", x.makeOver(0, 0), UNKNOWN);
        x.add(0, NUMBER, 5);
        x.add(1, DIGIT, 1);
        x.add(2, FLAG, 1);
        x.row();
        x.row();
        x.row();
        x.set(1, 0, 1);
        x.set(2, 0, -3);
        due("makeOver(0, 2)", x.makeOver(0, 2), NONE);
        x.kind(0, FLAG);
        x.kind(2, NUMBER);
        x.drop(1);
        x.add(3, NUMBER, 77);
        due("makeOver(1, 0)", x.makeOver(1, 0), BAD);
        due("makeOver(3, 0)", x.makeOver(3, 0), UNKNOWN);
        due("makeOver(0, 3)", x.makeOver(0, 3), UNKNOWN);
        due("makeOver(-1, 0)", x.makeOver(-1, 0), UNKNOWN);
        due("makeOver(0, -1)", x.makeOver(0, -1), UNKNOWN);
        due("makeOver(1, 1): the dropped one", x.makeOver(1, 1), 1);
        due("seasonOf(0)", x.seasonOf(0), 3);
        due("seasonOf(1)", x.seasonOf(1), 7);
        due("value(1, 0)", x.value(1, 0), 1);
        due("value(1, 1)", x.value(1, 1), NONE);
        due("value(1, 2)", x.value(1, 2), 1);
        due("value(1, 3)", x.value(1, 3), 77);
        due("makeOver(1, 1)", x.makeOver(1, 1), NONE);
        due("makeOver(0, 2)", x.makeOver(0, 2), 4);
        due("value(0, 0)", x.value(0, 0), 1);
        due("value(2, 0)", x.value(2, 0), 1);
        due("seasonOf(0)", x.seasonOf(0), 7);
        due("undo()", x.undo(), 3);
        due("value(2, 0)", x.value(2, 0), -3);
        due("seasonOf(2)", x.seasonOf(2), 3);
        ColumnSeasons alike = new ColumnSeasons();
        alike.add(0, FLAG, 0);
        alike.row();
        alike.kind(0, DIGIT);
        alike.kind(0, FLAG);
        due("another season, the same columns", alike.makeOver(0, 0), 0);
        due("then", alike.makeOver(0, 0), NONE);
        due("history", alike.count(7), 4);
    }

    private static void promise09Forget() {
        CHECKS.topic("promise 9");
        ColumnSeasons x = new ColumnSeasons();
        due("forget()", x.forget(), NONE);
        x.add(0, DIGIT, 1);
        x.add(1, DIGIT, 2);
        x.row();
        x.add(2, DIGIT, 3);
        x.add(3, DIGIT, 4);
        x.row();
        x.add(4, DIGIT, 5);
        due("forget()", x.forget(), 2);
        due("now", x.count(0), 3);
        due("seasonOf(0)", x.seasonOf(0), 0);
        due("seasonOf(1)", x.seasonOf(1), 2);
        due("column(0, 1, 1)", x.column(0, 1, 1), 2);
        due("column(3, 4, 1)", x.column(3, 4, 1), 5);
        due("column(0, 2, 1)", x.column(0, 2, 1), NONE);
        due("value(1, 3)", x.value(1, 3), 4);
        due("forget()", x.forget(), NONE);
        due("a season between two rows stays", x.count(0), 3);
        x.remove(0);
        due("forget()", x.forget(), 2);
        x.remove(0);
        due("forget() without rows", x.forget(), 1);
        due("now", x.count(0), 0);
        due("columns of now", x.count(1), 5);
        due("undo()", x.undo(), 3);
        due("now", x.count(0), 1);
        due("drop(0)", x.drop(0), 2);
        ColumnSeasons last = new ColumnSeasons();
        last.row();
        last.add(0, DIGIT, 1);
        last.row();
        last.remove(1);
        last.remove(0);
        due("a removed row holds no season", last.forget(), 1);
        ColumnSeasons full = fullOfSeasons();
        due("forget() when full", full.forget(), 29);
        due("drop(0)", full.drop(0), 1);
    }

    private static void promise10Type() {
        CHECKS.topic("promise 10");
        ColumnSeasons x = new ColumnSeasons();
        for (int i = 1; i <= 80; i++) {
            due("type()", x.type((char) (i * 800)), i);
        }
        due("type() when full", x.type('a'), FULL);
        due("length", x.count(8), 80);
        due("no act", x.count(7), 0);
        due("clearText()", x.clearText(), 80);
        due("type()", x.type('a'), 1);
    }

    private static void promise11ClearText() {
        CHECKS.topic("promise 11");
        ColumnSeasons x = new ColumnSeasons();
        due("clearText()", x.clearText(), 0);
        write(x, "row");
        due("clearText()", x.clearText(), 3);
        due("clearText()", x.clearText(), 0);
        due("no act", x.count(7), 0);
        due("perform() of the empty text", x.perform(), -10100);
    }

    private static void promise12PerformFaults() {
        CHECKS.topic("promise 12, faults");
        String[] whole = {"row", "drop 7", "kind 0 flag", "kind 7 digit", "kind 3 number", "add 0 flag", "add 0 flag 0",
            "add 0 flag 1", "add 0 digit", "add 0 digit 9", "add 0 number", "add 0 number 9999", "add 0 number -9999",
            "add 0 number 0", "add 0 number -1", "set 0 0 0", "set 9 7 -1", "set 10 0 9999", "set 19 0 -9999",
            "set 20 0 10", "set 23 0 5", "row;row", "set 2 0 1;set 3 0 1"};
        for (String text : whole) {
            int answer = perform(new ColumnSeasons(), text);
            CHECKS.dueThat("'" + text + "' has no fault", answer > -10100);
        }
        for (String text : whole) {
            for (int end = 0; end < text.length(); end++) {
                String part = text.substring(0, end);
                if (!isWhole(part)) {
                    due("end too early: '" + part + "'", faultOf(part), end);
                }
            }
        }
        Object[][] faults = {{"", 0}, {"x", 0}, {"Row", 0}, {" row", 0}, {";row", 0}, {"row ", 3}, {"row x", 3},
            {"row;;row", 4}, {"row; row", 4}, {"rowrow", 3}, {"row;", 4}, {"ros", 2}, {"ax", 1}, {"dxop 1", 1},
            {"kin 1 flag", 3}, {"sett", 3}, {"drop  1", 5}, {"drop 8", 5}, {"drop 9", 5}, {"drop -1", 5},
            {"drop 00", 6}, {"drop 10", 6}, {"drop 1 ", 6}, {"drop a", 5}, {"drop", 4}, {"drop ", 5},
            {"add 0 flag 2", 11}, {"add 0 flag 10", 12}, {"add 0 flag 00", 12}, {"add 0 flag -", 11},
            {"add 0 flag  1", 11}, {"add 0 flag 1 ", 12}, {"add 0 flagg", 10}, {"add 0 flat", 9}, {"add 0 xlag", 6},
            {"add 0 digit 10", 13}, {"add 0 digit -1", 12}, {"add 0 digit a", 12}, {"add 0 digit ", 12},
            {"add 0 number 10000", 17}, {"add 0 number -10000", 18}, {"add 0 number -0", 14}, {"add 0 number 01", 14},
            {"add 0 number --1", 14}, {"add 0 number -", 14}, {"add 0 number +1", 13}, {"add 0 1", 6}, {"add 0", 5},
            {"add flag", 4}, {"add 0flag", 5}, {"kind 0 digit 1", 12}, {"kind 0 digit;", 13}, {"kind 0 dig", 10},
            {"set 24 0 0", 5}, {"set 30 0 0", 5}, {"set 00 0 0", 5}, {"set 230 0 0", 6}, {"set -1 0 0", 4},
            {"set 0 8 0", 6}, {"set 0 10 0", 7}, {"set 0 0", 7}, {"set 0 0 -", 9}, {"set 0 0 -0", 9},
            {"set 0 0 10000", 12}, {"set 0 0 -99990", 13}, {"set 0 0 05", 9}, {"set 0 0 5 ", 9}, {"set  0 0 5", 4},
            {"row;drop 0;set 0 9", 17}, {"row\u0000", 3}, {"row\u013b", 3}, {"drop \uff10", 5}, {"drop \u0660", 5}};
        for (Object[] fault : faults) {
            due("fault of '" + fault[0] + "'", faultOf((String) fault[0]), (Integer) fault[1]);
        }
        String twenty = "row;".repeat(20);
        due("20 commands and nothing behind the last ';'", faultOf(twenty), 80);
        due("20 commands", perform(new ColumnSeasons(), twenty.substring(0, 79)), 20);
    }

    private static boolean isWhole(String text) {
        return text.matches("row|add 0 (flag|digit|number)( -?\\d+)?|(set 2 0 1;)?set \\d+ \\d -?\\d+");
    }

    private static void promise12PerformCommands() {
        CHECKS.topic("promise 12, commands");
        ColumnSeasons x = new ColumnSeasons();
        due("perform()", perform(x, "add 0 flag 1;add 1 digit 9;add 2 number -9999;add 7 number;row"), 5);
        due("one act", x.count(7), 1);
        due("text stays", x.count(8), 62);
        due("now", x.count(0), 4);
        due("value(0, 0)", x.value(0, 0), 1);
        due("value(0, 1)", x.value(0, 1), 9);
        due("value(0, 2)", x.value(0, 2), -9999);
        due("value(0, 7)", x.value(0, 7), 0);
        due("perform()", perform(x, "kind 7 digit;drop 2;set 0 2 1234;set 0 1 0;set 0 7 -56"), 5);
        due("column(6, 7, 0)", x.column(6, 7, 0), DIGIT);
        due("column(6, 2, 0)", x.column(6, 2, 0), NONE);
        due("value(0, 2)", x.value(0, 2), 1234);
        due("value(0, 1)", x.value(0, 1), 0);
        due("value(0, 7)", x.value(0, 7), -56);
        due("a command that does nothing", perform(x, "kind 7 digit"), 1);
        due("recorded all the same", x.count(7), 3);
        due("set to what it is", perform(x, "set 0 1 0;kind 7 flag"), 2);
        due("column(7, 7, 0)", x.column(7, 7, 0), FLAG);
        due("again", perform(x, "row;row"), 2);
        due("the same text once more", x.perform(), 2);
        due("rows", x.count(2), 5);
        due("undo()", x.undo(), 3);
        due("rows", x.count(2), 3);
        perform(x, "kind 0 number;kind 1 number");
        due("column(9, 0, 0)", x.column(9, 0, 0), NUMBER);
        due("column(9, 1, 1)", x.column(9, 1, 1), 9);
        ColumnSeasons rows = new ColumnSeasons();
        rows.add(3, NUMBER, 0);
        perform(rows, "row;row;row;row;row;row;row;row;row;row;row;row");
        rows.perform();
        due("perform()", perform(rows, "set 23 3 -1000;set 10 3 20"), 2);
        due("value(23, 3)", rows.value(23, 3), -1000);
        due("value(10, 3)", rows.value(10, 3), 20);
        due("a default that was not told is 0", perform(new ColumnSeasons(), "add 0 digit 5;add 1 digit"), 2);
        ColumnSeasons standards = new ColumnSeasons();
        perform(standards, "add 0 digit 5;add 1 digit");
        due("column(2, 1, 1)", standards.column(2, 1, 1), 0);
        perform(standards, "add 2 digit 7");
        perform(standards, "add 3 digit");
        due("column(4, 3, 1)", standards.column(4, 3, 1), 0);
    }

    private static void promise12PerformAllOrNone() {
        CHECKS.topic("promise 12, all or none");
        ColumnSeasons x = new ColumnSeasons();
        x.add(0, DIGIT, 5);
        x.row();
        due("perform()", perform(x, "set 0 0 7;row;drop 0;drop 0"), NOT_POSSIBLE);
        due("value(0, 0)", x.value(0, 0), 5);
        due("rows", x.count(2), 1);
        due("now", x.count(0), 1);
        due("no act", x.count(7), 2);
        due("fault ahead of all commands", perform(x, "row;drop 5;x"), -10111);
        due("rows", x.count(2), 1);
        due("a value out of the kind", perform(x, "set 0 0 10"), NOT_POSSIBLE);
        due("no such row", perform(x, "set 1 0 1"), NOT_POSSIBLE);
        due("a column that is there", perform(x, "add 0 flag"), NOT_POSSIBLE);
        ColumnSeasons full = withRows(23);
        due("23 rows and 2 more", perform(full, "row;row"), NOT_POSSIBLE);
        due("rows", full.count(2), 23);
        due("and 1 more", perform(full, "row"), 1);
        ColumnSeasons seasons = fullOfSeasons();
        due("30 seasons and a kind that it is already", perform(seasons, "kind 0 number"), NOT_POSSIBLE);
        due("the cause", seasons.stopped(1), FULL);
    }

    private static void promise13Stopped() {
        CHECKS.topic("promise 13");
        ColumnSeasons x = new ColumnSeasons();
        due("stopped(0)", x.stopped(0), NONE);
        due("stopped(1)", x.stopped(1), NONE);
        due("stopped(-1)", x.stopped(-1), BAD);
        due("stopped(2)", x.stopped(2), BAD);
        perform(x, "x");
        perform(x, "row");
        due("a fault is no stop", x.stopped(0), NONE);
        perform(x, "drop 0");
        due("stopped(0)", x.stopped(0), 0);
        due("stopped(1)", x.stopped(1), UNKNOWN);
        perform(x, "row;add 0 flag;add 0 digit");
        due("stopped(0)", x.stopped(0), 2);
        due("stopped(1)", x.stopped(1), NOT_POSSIBLE);
        perform(x, "add 0 flag;row;set 1 0 3");
        due("stopped(0)", x.stopped(0), 2);
        due("stopped(1)", x.stopped(1), BAD);
        perform(x, "row;row;");
        perform(x, "row");
        x.undo();
        x.clearText();
        due("it stays", x.stopped(0), 2);
        due("it stays", x.stopped(1), BAD);
        perform(x, "row;row;row;row;row;row;row;row;row;row;row;row");
        x.perform();
        due("stopped(0)", x.stopped(0), 11);
        due("stopped(1)", x.stopped(1), FULL);
        due("stopped(2)", x.stopped(2), BAD);
    }

    private static void promise14Undo() {
        CHECKS.topic("promise 14");
        ColumnSeasons x = new ColumnSeasons();
        due("undo()", x.undo(), NONE);
        x.add(0, NUMBER, 1);
        x.row();
        x.set(0, 0, 2);
        due("history", x.count(7), 3);
        due("undo()", x.undo(), 2);
        due("value(0, 0)", x.value(0, 0), 1);
        due("undo()", x.undo(), 1);
        due("rows", x.count(2), 0);
        due("undo()", x.undo(), 0);
        due("now", x.count(0), 0);
        due("undo()", x.undo(), NONE);
        x.add(0, NUMBER, 1);
        x.row();
        for (int value = 2; value <= 8; value++) {
            x.set(0, 0, value);
        }
        due("history", x.count(7), 4);
        x.set(0, 0, 8);
        x.set(0, 0, 10000);
        x.keep();
        x.type('a');
        due("history", x.count(7), 4);
        for (int left = 3; left >= 0; left--) {
            due("undo()", x.undo(), left);
            due("value(0, 0)", x.value(0, 0), 4 + left);
        }
        due("undo()", x.undo(), NONE);
        due("value(0, 0)", x.value(0, 0), 4);
        due("the text stays", x.count(8), 1);
        x.restore();
        due("the snapshot stays", x.value(0, 0), 8);
        x.set(0, 0, 3);
        x.undo();
        x.set(0, 0, 5);
        due("undo()", x.undo(), 1);
        due("value(0, 0)", x.value(0, 0), 8);
        due("undo()", x.undo(), 0);
        due("value(0, 0)", x.value(0, 0), 4);
    }

    private static void promise14UndoOfEachAct() {
        CHECKS.topic("promise 14, each act");
        for (int act = 0; act < 10; act++) {
            ColumnSeasons x = withRows(3);
            x.add(1, DIGIT, 6);
            x.add(2, FLAG, 1);
            x.keep();
            x.set(0, 0, 99);
            write(x, "row;drop 1");
            String before = told(x);
            CHECKS.dueThat("act " + act + " is done", doAct(x, act) >= 0);
            CHECKS.dueThat("act " + act + " changes something", !told(x).equals(before));
            due("undo() of act " + act, x.undo(), 3);
            CHECKS.dueThat("act " + act + " is undone", told(x).equals(before));
            x.set(1, 0, 50);
            x.undo();
            CHECKS.dueThat("a set after act " + act + " is undone", told(x).equals(before));
        }
    }

    private static int doAct(ColumnSeasons x, int act) {
        switch (act) {
            case 0: return x.add(3, NUMBER, -1) < 0 ? -1 : 0;
            case 1: return x.drop(1);
            case 2: return x.kind(0, FLAG);
            case 3: return x.row();
            case 4: return x.set(2, 0, 9999);
            case 5: return x.remove(0);
            case 6: return x.makeOver(0, 2);
            case 7: return x.forget();
            case 8: return x.perform();
            default: return x.restore();
        }
    }

    /** Of the names 0 to 3, to stay under the 512 calls that an object may have. */
    private static String told(ColumnSeasons x) {
        StringBuilder told = new StringBuilder();
        for (int season = 0; season <= x.count(0); season++) {
            for (int name = 0; name < 4; name++) {
                told.append(x.column(season, name, 0)).append('/').append(x.column(season, name, 1)).append(' ');
            }
        }
        for (int row = 0; row < x.count(2); row++) {
            told.append("row of ").append(x.seasonOf(row)).append(": ");
            for (int name = 0; name < 4; name++) {
                told.append(x.value(row, name)).append(' ');
            }
        }
        return told.toString();
    }

    private static void promise15Keep() {
        CHECKS.topic("promise 15");
        ColumnSeasons x = new ColumnSeasons();
        due("keep()", x.keep(), 0);
        due("no act", x.count(7), 0);
        x.add(0, DIGIT, 3);
        x.row();
        x.row();
        due("keep()", x.keep(), 2);
        x.set(1, 0, 9);
        x.remove(0);
        due("keep()", x.keep(), 1);
        x.set(0, 0, 0);
        due("restore()", x.restore(), 1);
        due("the latest one counts", x.value(0, 0), 9);
    }

    private static void promise16Restore() {
        CHECKS.topic("promise 16");
        ColumnSeasons x = new ColumnSeasons();
        due("restore()", x.restore(), NONE);
        due("no act", x.count(7), 0);
        x.add(0, NUMBER, 3);
        x.row();
        x.keep();
        x.add(1, FLAG, 0);
        x.row();
        x.set(0, 0, 40);
        write(x, "drop 5");
        x.perform();
        due("restore()", x.restore(), 1);
        due("value(0, 0)", x.value(0, 0), 3);
        due("now", x.count(0), 1);
        due("text", x.count(8), 6);
        due("stopped(1)", x.stopped(1), UNKNOWN);
        due("history", x.count(7), 4);
        due("undo()", x.undo(), 3);
        due("value(0, 0)", x.value(0, 0), 40);
        due("rows", x.count(2), 2);
        due("restore() again", x.restore(), 1);
        due("restore() of the same state", x.restore(), 1);
        due("history", x.count(7), 4);
    }

    private static void promise17Column() {
        CHECKS.topic("promise 17");
        ColumnSeasons x = new ColumnSeasons();
        x.add(0, DIGIT, 6);
        x.add(7, NUMBER, -5);
        due("column(0, 0, 0)", x.column(0, 0, 0), NONE);
        due("column(0, 0, 1)", x.column(0, 0, 1), NONE);
        due("column(1, 0, 0)", x.column(1, 0, 0), DIGIT);
        due("column(1, 0, 1)", x.column(1, 0, 1), 6);
        due("column(2, 7, 0)", x.column(2, 7, 0), NUMBER);
        due("column(2, 7, 1)", x.column(2, 7, 1), -5);
        due("column(1, 7, 1)", x.column(1, 7, 1), NONE);
        due("column(3, 0, 2)", x.column(3, 0, 2), UNKNOWN);
        due("column(-1, 0, 0)", x.column(-1, 0, 0), UNKNOWN);
        due("column(0, 8, 0)", x.column(0, 8, 0), UNKNOWN);
        due("column(0, -1, 0)", x.column(0, -1, 0), UNKNOWN);
        due("column(0, 0, 2)", x.column(0, 0, 2), BAD);
        due("column(1, 0, -1)", x.column(1, 0, -1), BAD);
    }

    private static void promise18Season() {
        CHECKS.topic("promise 18");
        ColumnSeasons x = new ColumnSeasons();
        x.row();
        x.add(0, DIGIT, 6);
        x.add(7, NUMBER, -5);
        x.row();
        x.row();
        x.kind(0, FLAG);
        x.drop(7);
        due("season(2, 0)", x.season(2, 0), 2);
        due("season(2, 1)", x.season(2, 1), 129);
        due("season(4, 0)", x.season(4, 0), 1);
        due("season(4, 1)", x.season(4, 1), 1);
        due("season(0, 1)", x.season(0, 1), 0);
        due("season(0, 2)", x.season(0, 2), 1);
        due("season(1, 2)", x.season(1, 2), 0);
        due("season(2, 2)", x.season(2, 2), 2);
        due("season(0, 3)", x.season(0, 3), 0);
        due("season(1, 3)", x.season(1, 3), 1);
        due("season(3, 3), another kind", x.season(3, 3), 1);
        due("season(4, 3), one less", x.season(4, 3), 0);
        due("season(5, 0)", x.season(5, 0), UNKNOWN);
        due("season(-1, 9)", x.season(-1, 9), UNKNOWN);
        due("season(0, 4)", x.season(0, 4), BAD);
        due("season(0, -1)", x.season(0, -1), BAD);
        x.remove(0);
        x.forget();
        due("season(0, 0)", x.season(0, 0), 2);
        due("season(0, 3) of the first one that is kept", x.season(0, 3), 0);
        due("season(1, 3)", x.season(1, 3), 1);
    }

    private static void promise18SeasonWithoutRemovedRows() {
        CHECKS.topic("promise 18, removed rows");
        ColumnSeasons x = withRows(4);
        due("season(1, 2)", x.season(1, 2), 4);
        x.remove(3);
        x.remove(0);
        due("season(1, 2)", x.season(1, 2), 2);
        x.add(7, FLAG, 0);
        x.kind(7, NUMBER);
        due("season(3, 3), the name 7", x.season(3, 3), 1);
        x.undo();
        x.undo();
        due("names of all seasons without one that was undone", x.count(6), 1);
    }

    private static void promise19Value() {
        CHECKS.topic("promise 19");
        ColumnSeasons x = new ColumnSeasons();
        x.add(3, NUMBER, -5);
        x.row();
        x.kind(3, FLAG);
        x.add(4, FLAG, 1);
        due("value(0, 3)", x.value(0, 3), -5);
        due("value(0, 4)", x.value(0, 4), NONE);
        due("value(0, 8)", x.value(0, 8), UNKNOWN);
        due("value(0, -1)", x.value(0, -1), UNKNOWN);
        due("value(1, 3)", x.value(1, 3), UNKNOWN);
        due("value(-1, 3)", x.value(-1, 3), UNKNOWN);
    }

    private static void promise20Read() {
        CHECKS.topic("promise 20");
        ColumnSeasons x = new ColumnSeasons();
        x.add(0, NUMBER, 4);
        x.row();
        x.kind(0, DIGIT);
        x.kind(0, FLAG);
        x.drop(0);
        x.add(0, NUMBER, 8);
        x.add(1, DIGIT, 6);
        x.row();
        int[][] casts = {{4, 4, 1, 1, 2}, {9, 9, 1, 1, 2}, {10, 9, 2, 1, 2}, {-1, 0, 2, 1, 2}, {1, 1, 1, 1, 1},
            {0, 0, 1, 0, 1}};
        for (int[] cast : casts) {
            x.set(0, 0, cast[0]);
            due("read(0, 1, 0, 0)", x.read(0, 1, 0, 0), cast[0]);
            due("read(0, 1, 0, 1)", x.read(0, 1, 0, 1), 0);
            due("to a digit " + cast[0], x.read(0, 2, 0, 0), cast[1]);
            due("how", x.read(0, 2, 0, 1), cast[2]);
            due("to a flag " + cast[0], x.read(0, 3, 0, 0), cast[3]);
            due("how", x.read(0, 3, 0, 1), cast[4]);
            due("gone", x.read(0, 4, 0, 0), NONE);
            due("came again", x.read(0, 5, 0, 0), cast[0]);
            due("how", x.read(0, 5, 0, 1), 0);
        }
        due("stands in", x.read(0, 6, 1, 0), 6);
        due("how", x.read(0, 6, 1, 1), 3);
        due("a later row in an earlier season", x.read(1, 1, 0, 0), 8);
        due("a later row in an earlier season", x.read(1, 1, 1, 0), NONE);
        due("in the season without columns", x.read(1, 0, 0, 1), NONE);
        ColumnSeasons narrow = new ColumnSeasons();
        narrow.add(0, FLAG, 1);
        narrow.row();
        narrow.kind(0, DIGIT);
        narrow.row();
        narrow.set(1, 0, 7);
        narrow.kind(0, NUMBER);
        due("a flag as a digit", narrow.read(0, 2, 0, 0), 1);
        due("how", narrow.read(0, 2, 0, 1), 1);
        due("a flag as a number", narrow.read(0, 3, 0, 1), 1);
        due("a digit as a flag", narrow.read(1, 1, 0, 0), 1);
        due("how", narrow.read(1, 1, 0, 1), 2);
        due("a digit as a number", narrow.read(1, 3, 0, 0), 7);
        due("how", narrow.read(1, 3, 0, 1), 1);
        due("read(2, 0, 0, 2)", narrow.read(2, 0, 0, 2), UNKNOWN);
        due("read(-1, 0, 0, 0)", narrow.read(-1, 0, 0, 0), UNKNOWN);
        due("read(0, 4, 0, 0)", narrow.read(0, 4, 0, 0), UNKNOWN);
        due("read(0, -1, 0, 0)", narrow.read(0, -1, 0, 0), UNKNOWN);
        due("read(0, 0, 8, 0)", narrow.read(0, 0, 8, 0), UNKNOWN);
        due("read(0, 0, -1, 0)", narrow.read(0, 0, -1, 0), UNKNOWN);
        due("read(0, 0, 0, 2)", narrow.read(0, 0, 0, 2), BAD);
        due("read(0, 1, 0, -1)", narrow.read(0, 1, 0, -1), BAD);
    }

    private static void promise21SeasonOf() {
        CHECKS.topic("promise 21");
        ColumnSeasons x = new ColumnSeasons();
        x.row();
        x.add(0, FLAG, 0);
        x.row();
        due("seasonOf(0)", x.seasonOf(0), 0);
        due("seasonOf(1)", x.seasonOf(1), 1);
        due("seasonOf(2)", x.seasonOf(2), UNKNOWN);
        due("seasonOf(-1)", x.seasonOf(-1), UNKNOWN);
    }

    private static ColumnSeasons threeDresses() {
        ColumnSeasons x = new ColumnSeasons();
        x.add(0, DIGIT, 2);
        x.add(1, NUMBER, 50);
        x.row();
        x.row();
        x.set(1, 0, 3);
        x.kind(0, NUMBER);
        x.add(2, FLAG, 1);
        x.row();
        x.set(2, 0, -6);
        x.drop(1);
        x.row();
        x.kind(0, FLAG);
        return x;
    }

    private static void promise22View() {
        CHECKS.topic("promise 22");
        ColumnSeasons x = new ColumnSeasons();
        due("view(0, 0, 0)", x.view(0, 0, 0), UNKNOWN);
        x = threeDresses();
        due("view(0, 1, 0)", x.view(0, 1, 0), 3);
        due("view(2, 2, 0)", x.view(2, 2, 0), 7);
        due("view(2, 3, 0)", x.view(2, 3, 0), 5);
        due("view(0, 3, 0)", x.view(0, 3, 0), 1);
        due("view(3, 0, 0)", x.view(3, 0, 0), 0);
        due("view(0, 3, 1)", x.view(0, 3, 1), 4);
        due("view(2, 2, 1)", x.view(2, 2, 1), 1);
        due("view(3, 2, 1)", x.view(3, 2, 1), 0);
        due("view(3, 0, 1)", x.view(3, 0, 1), 0);
        due("no value is the default 1 of the column 0 now", x.view(0, 3, 2), 0);
        due("the flags are the default 1 of now", x.view(2, 3, 2), 2);
        x.set(0, 0, 1);
        x.set(2, 0, 1);
        due("view(0, 1, 2)", x.view(0, 1, 2), 1);
        due("view(0, 2, 2)", x.view(0, 2, 2), 2);
        due("view(2, 3, 2)", x.view(2, 3, 2), 3);
        due("view(3, 0, 2)", x.view(3, 0, 2), 0);
        due("view(0, 4, 0)", x.view(0, 4, 0), UNKNOWN);
        due("view(4, 0, 0)", x.view(4, 0, 0), UNKNOWN);
        due("view(-1, 0, 9)", x.view(-1, 0, 9), UNKNOWN);
        due("view(0, -1, 0)", x.view(0, -1, 0), UNKNOWN);
        due("view(0, 0, 3)", x.view(0, 0, 3), BAD);
        due("view(3, 0, 3)", x.view(3, 0, 3), BAD);
        due("view(0, 0, -1)", x.view(0, 0, -1), BAD);
    }

    private static void promise23ViewColumn() {
        CHECKS.topic("promise 23");
        ColumnSeasons x = threeDresses();
        due("kind in (0, 1)", x.viewColumn(0, 1, 0, 0), DIGIT);
        due("kind in (0, 3)", x.viewColumn(0, 3, 0, 0), NUMBER);
        due("kind of the flag", x.viewColumn(2, 3, 2, 0), FLAG);
        due("sum", x.viewColumn(0, 3, 0, 1), 1);
        due("least", x.viewColumn(0, 3, 0, 2), -6);
        due("greatest", x.viewColumn(0, 3, 0, 3), 3);
        due("unlike", x.viewColumn(0, 3, 0, 4), 3);
        due("unlike of one", x.viewColumn(3, 3, 0, 4), 1);
        due("least of (0, 1)", x.viewColumn(0, 1, 0, 2), 2);
        due("sum of (1, 2)", x.viewColumn(1, 2, 0, 1), -3);
        due("greatest of (2, 2)", x.viewColumn(2, 2, 0, 3), -6);
        due("sum of the column 1", x.viewColumn(0, 2, 1, 1), 150);
        due("not in all rows", x.viewColumn(0, 3, 1, 0), NONE);
        due("in none", x.viewColumn(0, 3, 5, 4), NONE);
        due("no rows", x.viewColumn(1, 0, 0, 0), NONE);
        due("viewColumn(4, 0, 0, 0)", x.viewColumn(4, 0, 0, 0), UNKNOWN);
        due("viewColumn(0, 4, 0, 0)", x.viewColumn(0, 4, 0, 0), UNKNOWN);
        due("viewColumn(-1, 0, 0, 0)", x.viewColumn(-1, 0, 0, 0), UNKNOWN);
        due("viewColumn(0, -1, 0, 0)", x.viewColumn(0, -1, 0, 0), UNKNOWN);
        due("viewColumn(0, 0, 8, 5)", x.viewColumn(0, 0, 8, 5), UNKNOWN);
        due("viewColumn(0, 0, -1, 0)", x.viewColumn(0, 0, -1, 0), UNKNOWN);
        due("viewColumn(0, 0, 0, 5)", x.viewColumn(0, 0, 0, 5), BAD);
        due("viewColumn(0, 0, 5, -1)", x.viewColumn(0, 0, 5, -1), BAD);
        ColumnSeasons most = new ColumnSeasons();
        most.add(0, NUMBER, 9999);
        most.row();
        most.row();
        due("least", most.viewColumn(0, 1, 0, 2), 9999);
        due("sum", most.viewColumn(0, 1, 0, 1), 19998);
        most.set(0, 0, -9999);
        due("greatest", most.viewColumn(0, 0, 0, 3), -9999);
        most.row();
        most.set(2, 0, -5);
        most.set(1, 0, 3);
        most.set(0, 0, 2);
        due("the last one is the least one", most.viewColumn(0, 2, 0, 2), -5);
        most.set(2, 0, 7);
        due("the last one is the greatest one", most.viewColumn(0, 2, 0, 3), 7);
        due("the last one is the sum's too", most.viewColumn(0, 2, 0, 1), 12);
        due("the last one is unlike the others", most.viewColumn(0, 2, 0, 4), 3);
        most.kind(0, FLAG);
        most.row();
        most.kind(0, NUMBER);
        most.row();
        due("the last one is the widest one", most.viewColumn(3, 4, 0, 0), NUMBER);
    }

    private static void promise24BestFrom() {
        CHECKS.topic("promise 24");
        ColumnSeasons x = new ColumnSeasons();
        due("bestFrom()", x.bestFrom(), NONE);
        x.row();
        x.row();
        due("no columns at all", x.bestFrom(), 0);
        x.add(0, FLAG, 0);
        x.row();
        x.row();
        due("bestFrom()", x.bestFrom(), 2);
        x.add(1, FLAG, 0);
        x.row();
        due("bestFrom()", x.bestFrom(), 4);
        x.drop(0);
        x.row();
        due("the first one of several", x.bestFrom(), 4);
        x.drop(1);
        x.row();
        due("the last row shows nothing", x.bestFrom(), 0);
    }

    private static void promise25BestSeason() {
        CHECKS.topic("promise 25");
        ColumnSeasons x = new ColumnSeasons();
        due("bestSeason(-1)", x.bestSeason(-1), BAD);
        due("bestSeason(2)", x.bestSeason(2), BAD);
        x.add(0, NUMBER, 5);
        x.add(1, DIGIT, 5);
        due("without rows the latest one", x.bestSeason(0), 2);
        due("without losses", x.bestSeason(1), 0);
        x.row();
        x.row();
        x.kind(0, FLAG);
        due("bestSeason(0)", x.bestSeason(0), 2);
        due("bestSeason(1)", x.bestSeason(1), 0);
        x.add(2, NUMBER, 1);
        x.row();
        due("bestSeason(0)", x.bestSeason(0), 2);
        due("bestSeason(1)", x.bestSeason(1), 1);
        x.row();
        due("of several the latest one", x.bestSeason(0), 4);
        due("bestSeason(1)", x.bestSeason(1), 2);
        ColumnSeasons first = new ColumnSeasons();
        first.add(0, NUMBER, 5);
        first.row();
        first.row();
        first.remove(1);
        first.row();
        first.kind(0, DIGIT);
        first.kind(0, FLAG);
        first.set(0, 0, 700);
        first.forget();
        due("the first season that is kept", first.bestSeason(0), 0);
        due("without losses", first.bestSeason(1), 0);
        first.undo();
        first.drop(0);
        first.row();
        first.add(0, FLAG, 0);
        due("an early one, with fewer losses than any later one", first.bestSeason(0), 1);
        first.remove(0);
        due("the latest one of two without losses", first.bestSeason(0), 2);
        first.remove(1);
        first.remove(0);
        due("a removed row loses nothing", first.bestSeason(0), 5);
    }

    private static void promise26Count() {
        CHECKS.topic("promise 26");
        ColumnSeasons x = threeDresses();
        due("count(0)", x.count(0), 6);
        due("count(1)", x.count(1), 2);
        due("count(2)", x.count(2), 4);
        due("count(3)", x.count(3), 0);
        due("count(4)", x.count(4), 9);
        due("count(5)", x.count(5), 7);
        due("count(6)", x.count(6), 7);
        due("count(7)", x.count(7), 4);
        due("count(8)", x.count(8), 0);
        x.type('a');
        due("count(8)", x.count(8), 1);
        x.row();
        due("count(3)", x.count(3), 1);
        due("count(5) tells what makeOver() does", x.count(5), x.makeOver(0, 4));
        due("count(5)", x.count(5), 0);
        due("count(3)", x.count(3), 5);
        due("names of all seasons", x.count(6), 7);
        x.forget();
        due("names of the seasons that are kept", x.count(6), 5);
        due("count(9)", x.count(9), BAD);
        due("count(-1)", x.count(-1), BAD);
    }
}
