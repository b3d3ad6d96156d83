/** What the document says of errors: their constants, the order of the checks, NONE, and that nothing is changed. */
public final class EdgesOfErrors extends TestBase {
    interface Maker {
        ColumnSeasons make();
    }

    interface Call {
        int on(ColumnSeasons x);
    }

    public static void main(String[] args) {
        constants();
        orderOfActsOnColumns();
        orderWhenFullOfSeasons();
        orderOfActsOnRows();
        orderOfWhatIsTold();
        orderInATextWithStops();
        noneOnlyWithoutErrors();
        refusedActsOnColumnsChangeNothing();
        refusedActsOnRowsChangeNothing();
        refusedCallsOnTextsChangeNothing();
        refusedQuestionsChangeNothing();
        callsOnANewOneChangeNothing();
        fullTablesAreNotChanged();
        stoppedPerformancesChangeNothingElse();
        lastCall();
        CHECKS.end();
    }

    private static void constants() {
        topic("Errors are reported by the constants below");
        due("UNKNOWN", ColumnSeasons.UNKNOWN, -10001);
        due("BAD_VALUE", ColumnSeasons.BAD_VALUE, -10002);
        due("FULL", ColumnSeasons.FULL, -10003);
        due("NOT_POSSIBLE", ColumnSeasons.NOT_POSSIBLE, -10004);
        due("NONE", ColumnSeasons.NONE, -10005);
    }

    // ---- the order of the checks

    private static void orderOfActsOnColumns() {
        topic("Where several errors can apply, the order of the @return line is the order of the checks");
        ColumnSeasons x = withRows(2);
        due("add(): UNKNOWN ahead of a bad kind", x.add(8, 3, 0), UNKNOWN);
        due("add(): UNKNOWN ahead of a bad default", x.add(-1, FLAG, 2), UNKNOWN);
        due("add(): a bad kind ahead of NOT_POSSIBLE", x.add(0, 3, 0), BAD);
        due("add(): a bad kind ahead of NOT_POSSIBLE", x.add(0, -1, 0), BAD);
        due("add(): a bad default ahead of NOT_POSSIBLE", x.add(0, FLAG, 2), BAD);
        due("add(): both bad", x.add(0, 3, 10000), BAD);
        due("kind(): UNKNOWN (name) ahead of BAD_VALUE", x.kind(8, 3), UNKNOWN);
        due("kind(): UNKNOWN (no such column) ahead of BAD_VALUE", x.kind(1, 3), UNKNOWN);
        due("kind(): BAD_VALUE ahead of NONE", x.kind(0, 3), BAD);
    }

    private static void orderWhenFullOfSeasons() {
        topic("the order of the @return line, with 30 seasons");
        ColumnSeasons x = fullOfSeasons();
        due("add(): UNKNOWN ahead of FULL", x.add(8, FLAG, 0), UNKNOWN);
        due("add(): BAD_VALUE (kind) ahead of FULL", x.add(1, 3, 0), BAD);
        due("add(): BAD_VALUE (default) ahead of FULL", x.add(1, FLAG, 2), BAD);
        due("add(): NOT_POSSIBLE ahead of FULL", x.add(0, FLAG, 0), NOT_POSSIBLE);
        due("add(): FULL", x.add(1, FLAG, 0), FULL);
        due("drop(): UNKNOWN (name) ahead of FULL", x.drop(8), UNKNOWN);
        due("drop(): UNKNOWN (no such column) ahead of FULL", x.drop(1), UNKNOWN);
        due("drop(): FULL", x.drop(0), FULL);
        due("kind(): UNKNOWN (name) ahead of FULL", x.kind(-1, FLAG), UNKNOWN);
        due("kind(): UNKNOWN (no such column) ahead of FULL", x.kind(1, FLAG), UNKNOWN);
        due("kind(): BAD_VALUE ahead of FULL", x.kind(0, -1), BAD);
        due("kind(): FULL", x.kind(0, FLAG), FULL);
        due("kind(): FULL ahead of NONE", x.kind(0, NUMBER), FULL);
        x.undo();
        due("kind() with 29 seasons: NONE", x.kind(0, NUMBER), NONE);
    }

    private static void orderOfActsOnRows() {
        topic("the order of the @return line, of acts on rows");
        ColumnSeasons x = withRows(2);
        due("set(): UNKNOWN (row) ahead of BAD_VALUE", x.set(2, 0, 10000), UNKNOWN);
        due("set(): UNKNOWN (name) ahead of BAD_VALUE", x.set(0, 8, 10000), UNKNOWN);
        due("set(): UNKNOWN (no such column) ahead of BAD_VALUE", x.set(0, 1, -10000), UNKNOWN);
        due("set(): both UNKNOWN", x.set(-1, -1, 0), UNKNOWN);
        due("set(): BAD_VALUE", x.set(0, 0, 10000), BAD);
        due("makeOver(): UNKNOWN (from) ahead of BAD_VALUE", x.makeOver(2, 0), UNKNOWN);
        due("makeOver(): UNKNOWN (to) ahead of BAD_VALUE", x.makeOver(1, -1), UNKNOWN);
        due("makeOver(): BAD_VALUE ahead of NONE", x.makeOver(1, 0), BAD);
        due("makeOver(): NONE", x.makeOver(0, 1), NONE);
        x.drop(0);
        due("makeOver(): UNKNOWN (to)", x.makeOver(0, 2), UNKNOWN);
        due("makeOver(): BAD_VALUE", x.makeOver(1, 0), BAD);
        due("nothing is made over", x.seasonOf(0), 1);
    }

    private static void orderOfWhatIsTold() {
        topic("the order of the @return line, of what is told");
        ColumnSeasons x = withRows(2);
        x.add(1, FLAG, 1);
        due("column(): UNKNOWN (season)", x.column(3, 0, 2), UNKNOWN);
        due("column(): UNKNOWN (name)", x.column(2, 8, 2), UNKNOWN);
        due("column(): BAD_VALUE ahead of NONE", x.column(2, 7, 2), BAD);
        due("column(): BAD_VALUE ahead of NONE", x.column(0, 0, -1), BAD);
        due("season(): UNKNOWN ahead of BAD_VALUE", x.season(3, 4), UNKNOWN);
        due("season(): UNKNOWN ahead of BAD_VALUE", x.season(-1, -1), UNKNOWN);
        due("value(): UNKNOWN (row)", x.value(2, 7), UNKNOWN);
        due("value(): UNKNOWN (name)", x.value(0, 8), UNKNOWN);
        due("read(): UNKNOWN (row)", x.read(2, 2, 0, 2), UNKNOWN);
        due("read(): UNKNOWN (season)", x.read(0, 3, 0, 2), UNKNOWN);
        due("read(): UNKNOWN (name)", x.read(0, 2, 8, 2), UNKNOWN);
        due("read(): BAD_VALUE ahead of NONE", x.read(0, 2, 7, 2), BAD);
        due("read(): BAD_VALUE ahead of NONE", x.read(0, 0, 0, -1), BAD);
        due("view(): UNKNOWN (from)", x.view(2, 0, 3), UNKNOWN);
        due("view(): UNKNOWN (to)", x.view(0, 2, 3), UNKNOWN);
        due("view(): BAD_VALUE over no rows", x.view(1, 0, 3), BAD);
        due("viewColumn(): UNKNOWN (from)", x.viewColumn(2, 0, 0, 5), UNKNOWN);
        due("viewColumn(): UNKNOWN (to)", x.viewColumn(0, 2, 0, 5), UNKNOWN);
        due("viewColumn(): UNKNOWN (name)", x.viewColumn(0, 0, 8, 5), UNKNOWN);
        due("viewColumn(): BAD_VALUE ahead of NONE", x.viewColumn(0, 0, 1, 5), BAD);
        due("viewColumn(): BAD_VALUE ahead of NONE, over no rows", x.viewColumn(1, 0, 0, -1), BAD);
        due("stopped(): BAD_VALUE ahead of NONE", x.stopped(2), BAD);
        due("stopped(): BAD_VALUE ahead of NONE", x.stopped(-1), BAD);
    }

    private static void orderInATextWithStops() {
        topic("-10100 minus the fault of the text if it has one; NOT_POSSIBLE if any is stopped");
        ColumnSeasons x = new ColumnSeasons();
        due("a stop alone", perform(x, "drop 0"), NOT_POSSIBLE);
        due("a fault behind a stop", perform(x, "drop 0;"), -10107);
        due("a fault ahead of a stop", perform(x, ";drop 0"), -10100);
        due("the first stop of two", perform(x, "row;drop 0;add 0 flag;add 0 flag"), NOT_POSSIBLE);
        due("its number", x.stopped(0), 1);
        due("its error", x.stopped(1), UNKNOWN);
        ColumnSeasons full = fullOfSeasons();
        due("add of a column that is there", perform(full, "add 0 flag"), NOT_POSSIBLE);
        due("NOT_POSSIBLE ahead of FULL", full.stopped(1), NOT_POSSIBLE);
        due("drop of no column", perform(full, "drop 1"), NOT_POSSIBLE);
        due("UNKNOWN ahead of FULL", full.stopped(1), UNKNOWN);
        due("kind of no column", perform(full, "kind 1 flag"), NOT_POSSIBLE);
        due("UNKNOWN ahead of FULL", full.stopped(1), UNKNOWN);
        due("kind as it is", perform(full, "kind 0 number"), NOT_POSSIBLE);
        due("FULL ahead of NONE", full.stopped(1), FULL);
        full.row();
        due("set of a row that is not", perform(full, "set 1 0 5"), NOT_POSSIBLE);
        due("its error", full.stopped(1), UNKNOWN);
        due("set of a column that is not", perform(full, "set 0 1 5"), NOT_POSSIBLE);
        due("its error", full.stopped(1), UNKNOWN);
    }

    private static void noneOnlyWithoutErrors() {
        topic("NONE is no error; it is returned only if no error applies");
        ColumnSeasons x = withRows(1);
        due("set() as it is", x.set(0, 0, 0), NONE);
        due("kind() as it is", x.kind(0, NUMBER), NONE);
        due("set() as it is, by a text", perform(x, "set 0 0 0"), 1);
        due("kind() as it is, by a text", perform(x, "kind 0 number"), 1);
        due("stopped()", x.stopped(0), NONE);
        due("value()", x.value(0, 1), NONE);
        due("value() of no name", x.value(0, 8), UNKNOWN);
        due("value() of no row", x.value(1, 1), UNKNOWN);
        due("read() of no name", x.read(0, 0, 8, 0), UNKNOWN);
        due("read()", x.read(0, 0, 7, 0), NONE);
        due("viewColumn()", x.viewColumn(0, 0, 7, 0), NONE);
        due("viewColumn() of no name", x.viewColumn(0, 0, 8, 0), UNKNOWN);
        due("column()", x.column(0, 7, 0), NONE);
        due("column() of no name", x.column(0, 8, 0), UNKNOWN);
    }

    // ---- A call that returns an error or NONE changes nothing

    /** Two tables are made alike; one of them gets the call, and both are asked for everything. */
    private static void changesNothing(String name, Maker maker, Call call, int answer) {
        for (int part = 0; part < Told.PARTS; part++) {
            ColumnSeasons touched = maker.make();
            ColumnSeasons untouched = maker.make();
            due(name, call.on(touched), answer);
            boolean isSame = Told.part(touched, part).equals(Told.part(untouched, part));
            CHECKS.dueThat(name + " changes nothing of part " + part, isSame);
            due(name + ", stopped(0)", touched.stopped(0), untouched.stopped(0));
            due(name + ", stopped(1)", touched.stopped(1), untouched.stopped(1));
        }
    }

    /** Rows in three dresses, four states of a history, a snapshot, a stop, and a text that can be performed. */
    private static ColumnSeasons rich() {
        ColumnSeasons x = new ColumnSeasons();
        x.row();
        x.add(0, NUMBER, -5);
        x.add(1, DIGIT, 7);
        x.row();
        x.keep();
        x.set(1, 0, 1234);
        perform(x, "row;drop 5");
        x.kind(0, DIGIT);
        x.add(2, FLAG, 1);
        x.row();
        write(x, "row;set 3 1 2");
        return x;
    }

    private static ColumnSeasons empty() {
        return new ColumnSeasons();
    }

    private static void richStays(String name, Call call, int answer) {
        changesNothing(name, EdgesOfErrors::rich, call, answer);
    }

    private static void refusedActsOnColumnsChangeNothing() {
        topic("A call that returns an error or NONE changes nothing: acts on columns");
        richStays("add(8, 0, 0)", x -> x.add(8, 0, 0), UNKNOWN);
        richStays("add(3, 3, 0)", x -> x.add(3, 3, 0), BAD);
        richStays("add(3, 1, 10)", x -> x.add(3, DIGIT, 10), BAD);
        richStays("add(0, 2, 3)", x -> x.add(0, NUMBER, 3), NOT_POSSIBLE);
        richStays("drop(8)", x -> x.drop(8), UNKNOWN);
        richStays("drop(3)", x -> x.drop(3), UNKNOWN);
        richStays("kind(8, 0)", x -> x.kind(8, 0), UNKNOWN);
        richStays("kind(3, 0)", x -> x.kind(3, 0), UNKNOWN);
        richStays("kind(0, 3)", x -> x.kind(0, 3), BAD);
        richStays("kind(0, 1)", x -> x.kind(0, DIGIT), NONE);
    }

    private static void refusedActsOnRowsChangeNothing() {
        topic("A call that returns an error or NONE changes nothing: acts on rows");
        richStays("set(3, 0, 0)", x -> x.set(3, 0, 0), UNKNOWN);
        richStays("set(1, 2, 0)", x -> x.set(1, 2, 0), UNKNOWN);
        richStays("set(1, 1, 10)", x -> x.set(1, 1, 10), BAD);
        richStays("set(1, 0, 1234)", x -> x.set(1, 0, 1234), NONE);
        richStays("remove(3)", x -> x.remove(3), UNKNOWN);
        richStays("remove(-1)", x -> x.remove(-1), UNKNOWN);
        richStays("makeOver(0, 3)", x -> x.makeOver(0, 3), UNKNOWN);
        richStays("makeOver(-1, 2)", x -> x.makeOver(-1, 2), UNKNOWN);
        richStays("makeOver(2, 0)", x -> x.makeOver(2, 0), BAD);
        richStays("makeOver(2, 2)", x -> x.makeOver(2, 2), NONE);
        richStays("forget()", x -> x.forget(), NONE);
    }

    private static void refusedCallsOnTextsChangeNothing() {
        topic("A call that returns an error or NONE changes nothing: texts");
        richStays("stopped(2)", x -> x.stopped(2), BAD);
        richStays("stopped(-1)", x -> x.stopped(-1), BAD);
        Maker fault = () -> {
            ColumnSeasons x = rich();
            write(x, "row;drop 0;row;");
            return x;
        };
        changesNothing("perform() with a fault", fault, ColumnSeasons::perform, -10115);
        Maker fullText = () -> {
            ColumnSeasons x = rich();
            write(x, "row;".repeat(17) + "drop 0;kind 1");
            return x;
        };
        changesNothing("type('0') with 80 characters", fullText, x -> x.type('0'), FULL);
    }

    private static void refusedQuestionsChangeNothing() {
        topic("A call that returns an error or NONE changes nothing: what is told");
        richStays("column(9, 0, 0)", x -> x.column(9, 0, 0), UNKNOWN);
        richStays("column(0, 0, 2)", x -> x.column(0, 0, 2), BAD);
        richStays("column(0, 0, 0)", x -> x.column(0, 0, 0), NONE);
        richStays("season(9, 0)", x -> x.season(9, 0), UNKNOWN);
        richStays("season(0, 4)", x -> x.season(0, 4), BAD);
        richStays("value(3, 0)", x -> x.value(3, 0), UNKNOWN);
        richStays("value(0, 0)", x -> x.value(0, 0), NONE);
        richStays("read(3, 0, 0, 0)", x -> x.read(3, 0, 0, 0), UNKNOWN);
        richStays("read(0, 0, 0, 2)", x -> x.read(0, 0, 0, 2), BAD);
        richStays("read(1, 0, 0, 0)", x -> x.read(1, 0, 0, 0), NONE);
        richStays("seasonOf(3)", x -> x.seasonOf(3), UNKNOWN);
        richStays("view(0, 3, 0)", x -> x.view(0, 3, 0), UNKNOWN);
        richStays("view(0, 2, 3)", x -> x.view(0, 2, 3), BAD);
        richStays("viewColumn(0, 3, 0, 0)", x -> x.viewColumn(0, 3, 0, 0), UNKNOWN);
        richStays("viewColumn(0, 2, 0, 5)", x -> x.viewColumn(0, 2, 0, 5), BAD);
        richStays("viewColumn(0, 2, 0, 0)", x -> x.viewColumn(0, 2, 0, 0), NONE);
        richStays("bestSeason(2)", x -> x.bestSeason(2), BAD);
        richStays("count(9)", x -> x.count(9), BAD);
    }

    private static void callsOnANewOneChangeNothing() {
        topic("A call that returns an error or NONE changes nothing: of a new object");
        Maker maker = EdgesOfErrors::empty;
        changesNothing("undo()", maker, x -> x.undo(), NONE);
        changesNothing("restore()", maker, x -> x.restore(), NONE);
        changesNothing("forget()", maker, x -> x.forget(), NONE);
        changesNothing("perform()", maker, x -> x.perform(), -10100);
        changesNothing("stopped(0)", maker, x -> x.stopped(0), NONE);
        changesNothing("bestFrom()", maker, x -> x.bestFrom(), NONE);
        changesNothing("remove(0)", maker, x -> x.remove(0), UNKNOWN);
        changesNothing("makeOver(0, 0)", maker, x -> x.makeOver(0, 0), UNKNOWN);
        changesNothing("set(0, 0, 0)", maker, x -> x.set(0, 0, 0), UNKNOWN);
        Maker undone = () -> {
            ColumnSeasons x = new ColumnSeasons();
            x.add(0, FLAG, 1);
            x.undo();
            return x;
        };
        changesNothing("undo() behind the last one", undone, x -> x.undo(), NONE);
    }

    private static void fullTablesAreNotChanged() {
        topic("A call that returns an error or NONE changes nothing: of a full table");
        Maker seasons = () -> {
            ColumnSeasons x = fullOfSeasons();
            x.row();
            return x;
        };
        changesNothing("add(1, 0, 1)", seasons, x -> x.add(1, FLAG, 1), FULL);
        changesNothing("drop(0)", seasons, x -> x.drop(0), FULL);
        changesNothing("kind(0, 0)", seasons, x -> x.kind(0, FLAG), FULL);
        changesNothing("kind(0, 2)", seasons, x -> x.kind(0, NUMBER), FULL);
        changesNothing("row()", () -> withRows(24), x -> x.row(), FULL);
        changesNothing("makeOver(0, 23)", () -> withRows(24), x -> x.makeOver(0, 23), NONE);
        changesNothing("remove(24)", () -> withRows(24), x -> x.remove(24), UNKNOWN);
    }

    private static void stoppedPerformancesChangeNothingElse() {
        topic("(but for the latest stop of perform())");
        String[] texts = {"drop 7", "row;drop 7", "add 3 flag;row;set 3 3 0;set 1 0 9;drop 0;kind 1 flag;drop 7",
            "set 1 0 9999;set 1 0 10;set 0 0 5", "kind 0 flag;kind 0 digit;kind 0 number;add 0 flag"};
        for (String text : texts) {
            for (int part = 0; part < Told.PARTS; part++) {
                ColumnSeasons stopped = rich();
                ColumnSeasons untouched = rich();
                write(stopped, text);
                write(untouched, text);
                due("'" + text + "'", stopped.perform(), NOT_POSSIBLE);
                boolean isSame = Told.part(stopped, part).equals(Told.part(untouched, part));
                CHECKS.dueThat("'" + text + "' changes nothing of part " + part, isSame);
            }
        }
    }

    private static void lastCall() {
        topic("An object is used for at most 512 calls after it has been made");
        for (int calls : new int[] {511, 512}) {
            ColumnSeasons x = new ColumnSeasons();
            x.add(0, NUMBER, 0);
            x.row();
            int done = 2;
            while (done < calls - 1) {
                due("set() as the call " + (done + 1), x.set(0, 0, done), done == 2 ? 0 : done - 1);
                done++;
            }
            due("value() as the call " + calls, x.value(0, 0), done - 1);
        }
        ColumnSeasons x = new ColumnSeasons();
        for (int pair = 0; pair < 255; pair++) {
            due("row()", x.row(), 0);
            due("remove()", x.remove(0), 0);
        }
        due("row() as the call 511", x.row(), 0);
        due("count(2) as the call 512", x.count(2), 1);
    }
}
