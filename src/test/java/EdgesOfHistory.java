import java.util.ArrayDeque;
import java.util.Deque;

/** The boundaries that the document names for the history, the snapshot, and what belongs to a state. */
public final class EdgesOfHistory extends TestBase {
    private static final int ACTS = 10;

    // Each of them, made out of a new table, differs from the first one in one thing.
    private static final String[] TABLES = {"add 0 number 3;add 5 flag 1;row;set 0 0 9",
        "add 7 number 3;add 5 flag 1;row;set 0 7 9", "add 0 digit 3;add 5 flag 1;row;set 0 0 9",
        "add 0 number 4;add 5 flag 1;row;set 0 0 9", "add 0 number 3;row;set 0 0 9",
        "add 0 number 3;add 5 flag 1", "add 0 number 3;add 5 flag 1;row;set 0 0 8",
        "add 0 number 3;add 5 flag 1;row;set 0 0 9;row", "add 0 number 3;add 5 flag 1;row;set 0 0 9;drop 5",
        "add 0 number 3;add 5 flag 1;row;set 0 0 9;kind 0 flag", "add 0 number 3;row;set 0 0 9;add 5 flag 1"};

    public static void main(String[] args) {
        fourStates();
        statesComeAndGo();
        actsAreRecorded();
        actsAreRecordedWhenFull();
        refusedActsAreNot();
        othersAreNot();
        snapshotIsEmptyAtFirst();
        snapshotStays();
        snapshotsOfFullAndEmptyTables();
        restoreIsRecorded();
        allOfATableIsOfAState();
        defaultsOfForgottenSeasons();
        textIsOfNoState();
        stopIsOfNoState();
        historyIsOfNoState();
        snapshotIsOfNoState();
        CHECKS.end();
    }

    private static void fourStates() {
        topic("A history of at most 4 states is kept; when one more is recorded, the oldest one is dropped");
        for (int acts = 0; acts <= 14; acts++) {
            ColumnSeasons x = new ColumnSeasons();
            for (int act = 1; act <= acts; act++) {
                x.row();
                due("count(7) with " + act + " acts", x.count(7), Math.min(act, 4));
            }
            int kept = Math.min(acts, 4);
            for (int left = kept - 1; left >= 0; left--) {
                due("undo() of " + acts, x.undo(), left);
                due("count(2)", x.count(2), acts - kept + left);
                due("count(7)", x.count(7), left);
            }
            due("undo() of none", x.undo(), NONE);
            due("count(2)", x.count(2), acts - kept);
            due("count(7)", x.count(7), 0);
        }
    }

    /** Up and down in the history again and again, so that it wraps around at every place. */
    private static void statesComeAndGo() {
        topic("undo() removes and restores the latest one");
        ColumnSeasons x = withRows(1);
        Deque<Integer> states = new ArrayDeque<>();
        int value = 0;
        int next = 1;
        int[] steps = {4, -1, 2, -2, 3, -2, 4, -4, 5, -1, 1, -4, 6, -3, 2, -3, 7, -4, 9, -2, 3, -4, -1, 5, -5, 8, -4};
        for (int step : steps) {
            for (int up = 0; up < step; up++) {
                due("set(0, 0, " + next + ")", x.set(0, 0, next), value);
                states.addLast(value);
                if (states.size() > 4) {
                    states.removeFirst();
                }
                value = next;
                next++;
            }
            for (int down = 0; down > step; down--) {
                boolean isEmpty = states.isEmpty();
                value = isEmpty ? value : states.removeLast();
                due("undo()", x.undo(), isEmpty ? NONE : states.size());
                due("value(0, 0)", x.value(0, 0), value);
            }
            due("count(7)", x.count(7), states.size());
        }
    }

    // ---- what is recorded

    /** Each of the acts can be done on it; one state is in its history. */
    private static ColumnSeasons ready() {
        ColumnSeasons x = new ColumnSeasons();
        perform(x, "add 0 number;add 1 digit 6;add 2 flag 1;row;set 0 0 77;row;kind 2 number");
        x.keep();
        write(x, "row;add 7 flag");
        return x;
    }

    private static int done(ColumnSeasons x, int act) {
        switch (act) {
            case 0: return x.add(3, NUMBER, -9999);
            case 1: return x.drop(1);
            case 2: return x.kind(0, FLAG);
            case 3: return x.row();
            case 4: return x.set(0, 0, -9999);
            case 5: return x.remove(0);
            case 6: return x.makeOver(0, 1);
            case 7: return x.forget();
            case 8: return x.perform();
            default: return x.restore();
        }
    }

    private static void actsAreRecorded() {
        topic("Each call of a method that is described as an act records the state that was before it");
        for (int act = 0; act < ACTS; act++) {
            ColumnSeasons x = ready();
            due("count(7) ahead of act " + act, x.count(7), 1);
            CHECKS.dueThat("act " + act + " is done", done(x, act) >= 0);
            due("count(7) behind act " + act, x.count(7), 2);
            due("undo() of act " + act, x.undo(), 1);
            CHECKS.dueThat("act " + act + " is undone", Told.state(x).equals(Told.state(ready())));
        }
    }

    private static void actsAreRecordedWhenFull() {
        topic("records the state that was before it, when there are 4");
        for (int act = 0; act < ACTS; act++) {
            ColumnSeasons x = ready();
            for (int i = 0; i < 4; i++) {
                x.set(1, 0, 1 + i);
            }
            String before = Told.state(x);
            due("count(7) ahead of act " + act, x.count(7), 4);
            CHECKS.dueThat("act " + act + " is done", done(x, act) >= 0);
            CHECKS.dueThat("act " + act + " changes something", !Told.state(x).equals(before));
            due("count(7) behind act " + act, x.count(7), 4);
            due("undo() of act " + act, x.undo(), 3);
            CHECKS.dueThat("act " + act + " is undone", Told.state(x).equals(before));
            x.undo();
            x.undo();
            due("the oldest one that is left", x.undo(), 0);
            due("value(1, 0)", x.value(1, 0), 1);
        }
    }

    private static void refusedActsAreNot() {
        topic("and returns no error and not NONE");
        ColumnSeasons x = withRows(24);
        x.undo();
        x.undo();
        x.row();
        x.keep();
        due("count(7)", x.count(7), 3);
        due("add() unknown", x.add(8, 0, 0), UNKNOWN);
        due("add() of no kind", x.add(1, 3, 0), BAD);
        due("add() again", x.add(0, 0, 0), NOT_POSSIBLE);
        due("drop() of none", x.drop(1), UNKNOWN);
        due("kind() of none", x.kind(1, 0), UNKNOWN);
        due("kind() of no kind", x.kind(0, 3), BAD);
        due("kind() as it is", x.kind(0, NUMBER), NONE);
        due("row() of 24", x.row(), FULL);
        due("set() of none", x.set(24, 0, 0), UNKNOWN);
        due("set() of no value", x.set(0, 0, 10000), BAD);
        due("set() as it is", x.set(5, 0, 5), NONE);
        due("remove() of none", x.remove(24), UNKNOWN);
        due("makeOver() of none", x.makeOver(0, 24), UNKNOWN);
        due("makeOver() backwards", x.makeOver(1, 0), BAD);
        due("makeOver() as it is", x.makeOver(0, 23), NONE);
        due("perform() with a fault", perform(x, "x"), -10100);
        due("perform() that is stopped", perform(x, "set 0 0 9;row"), NOT_POSSIBLE);
        due("restore() without a snapshot", new ColumnSeasons().restore(), NONE);
        due("forget() of none", new ColumnSeasons().forget(), NONE);
        due("count(7)", x.count(7), 3);
        ColumnSeasons none = new ColumnSeasons();
        none.forget();
        none.restore();
        due("count(7) of a new one", none.count(7), 0);
        ColumnSeasons full = fullOfSeasons();
        due("add() when full", full.add(1, 0, 0), FULL);
        due("drop() when full", full.drop(0), FULL);
        due("kind() when full", full.kind(0, 0), FULL);
        due("undo()", full.undo(), 3);
        due("season of now", full.count(0), 28);
    }

    private static void othersAreNot() {
        topic("a method that is described as an act, and no other");
        ColumnSeasons x = withRows(1);
        due("count(7)", x.count(7), 2);
        x.type('r');
        x.clearText();
        x.stopped(0);
        x.keep();
        x.column(1, 0, 0);
        x.season(0, 0);
        x.value(0, 0);
        x.read(0, 1, 0, 0);
        x.seasonOf(0);
        x.view(0, 0, 0);
        x.viewColumn(0, 0, 0, 0);
        x.bestFrom();
        x.bestSeason(0);
        x.count(7);
        due("count(7)", x.count(7), 2);
        due("undo() records nothing", x.undo(), 1);
        due("count(7)", x.count(7), 1);
        due("a command that does nothing, in an act that is done", perform(x, "kind 0 number"), 1);
        due("count(7)", x.count(7), 2);
    }

    // ---- the snapshot

    private static void snapshotIsEmptyAtFirst() {
        topic("There is one snapshot, empty at first");
        ColumnSeasons x = new ColumnSeasons();
        due("restore()", x.restore(), NONE);
        x.row();
        due("restore()", x.restore(), NONE);
        due("count(2)", x.count(2), 1);
        due("keep()", x.keep(), 1);
        due("restore()", x.restore(), 1);
    }

    private static void snapshotStays() {
        topic("Restores the state of the snapshot, which stays; a snapshot takes the place of the one that was");
        ColumnSeasons x = new ColumnSeasons();
        x.add(0, NUMBER, 1);
        x.row();
        x.keep();
        for (int times = 0; times < 6; times++) {
            x.set(0, 0, 50 + times);
            x.row();
            x.drop(0);
            due("restore()", x.restore(), 1);
            due("value(0, 0)", x.value(0, 0), 1);
            due("count(0)", x.count(0), 1);
            due("count(2)", x.count(2), 1);
        }
        x.set(0, 0, 60);
        due("keep()", x.keep(), 1);
        x.set(0, 0, 61);
        due("restore()", x.restore(), 1);
        due("the second one", x.value(0, 0), 60);
        x.undo();
        x.undo();
        x.undo();
        due("ahead of both", x.value(0, 0), 1);
        due("restore()", x.restore(), 1);
        due("the second one", x.value(0, 0), 60);
    }

    private static void snapshotsOfFullAndEmptyTables() {
        topic("Returns how many rows there are (0, 1, 23, 24)");
        for (int rows : new int[] {0, 1, 23, 24}) {
            ColumnSeasons x = withRows(rows);
            due("keep()", x.keep(), rows);
            due("count(2)", x.count(2), rows);
            x.add(1, FLAG, 1);
            if (rows > 0) {
                x.remove(0);
            } else {
                x.row();
            }
            due("restore()", x.restore(), rows);
            due("count(2)", x.count(2), rows);
            for (int row = 0; row < rows; row++) {
                due("value(" + row + ", 0)", x.value(row, 0), row);
            }
            due("behind the last one", x.value(rows, 0), UNKNOWN);
        }
        ColumnSeasons seasons = fullOfSeasons();
        seasons.keep();
        seasons.forget();
        due("restore() with 30 seasons", seasons.restore(), 0);
        due("count(0)", seasons.count(0), 29);
        due("add()", seasons.add(1, FLAG, 0), FULL);
        ColumnSeasons empty = new ColumnSeasons();
        empty.keep();
        empty.add(0, FLAG, 0);
        due("restore() of the season 0", empty.restore(), 0);
        due("count(0)", empty.count(0), 0);
        due("column(1, 0, 0)", empty.column(1, 0, 0), UNKNOWN);
    }

    private static void restoreIsRecorded() {
        topic("restore() is an act");
        ColumnSeasons x = withRows(2);
        x.keep();
        x.remove(0);
        due("restore()", x.restore(), 2);
        due("undo()", x.undo(), 3);
        due("count(2)", x.count(2), 1);
        due("restore()", x.restore(), 2);
        due("restore() of what it is already", x.restore(), 2);
        due("undo()", x.undo(), 3);
        due("undo()", x.undo(), 2);
        due("count(2)", x.count(2), 1);
    }

    // ---- A state is everything but the text, the history, the snapshot and the latest stop

    private static void allOfATableIsOfAState() {
        topic("A state is everything but these: columns, their kinds and defaults, seasons, rows, dresses, values");
        for (String first : TABLES) {
            for (String second : TABLES) {
                String firstTold = toldOf(first);
                String secondTold = toldOf(second);
                CHECKS.dueThat("'" + first + "' and '" + second + "'",
                    firstTold.equals(secondTold) == first.equals(second));
                ColumnSeasons x = new ColumnSeasons();
                perform(x, first);
                x.keep();
                x.undo();
                perform(x, second);
                x.restore();
                CHECKS.dueThat("restore() of '" + first + "' behind '" + second + "'", Told.state(x).equals(firstTold));
                x.undo();
                CHECKS.dueThat("undo() to '" + second + "' behind '" + first + "'", Told.state(x).equals(secondTold));
            }
        }
    }

    private static String toldOf(String text) {
        ColumnSeasons x = new ColumnSeasons();
        perform(x, text);
        return Told.state(x);
    }

    private static void defaultsOfForgottenSeasons() {
        topic("A state is everything but these: the seasons that were forgotten");
        for (int way = 0; way <= 1; way++) {
            ColumnSeasons x = new ColumnSeasons();
            x.add(0, NUMBER, 11);
            x.add(1, NUMBER, 22);
            x.row();
            x.add(2, NUMBER, 33);
            x.keep();
            due("forget()", x.forget(), 2);
            due("column(0, 1, 1)", x.column(0, 1, 1), 22);
            due("column(1, 2, 1)", x.column(1, 2, 1), 33);
            due("they come again", way == 0 ? x.undo() : x.restore(), way == 0 ? 3 : 1);
            due("column(1, 0, 1)", x.column(1, 0, 1), 11);
            due("column(1, 1, 1)", x.column(1, 1, 1), NONE);
            due("column(2, 0, 1)", x.column(2, 0, 1), 11);
            due("column(2, 1, 1)", x.column(2, 1, 1), 22);
            due("column(3, 2, 1)", x.column(3, 2, 1), 33);
            due("seasonOf(0)", x.seasonOf(0), 2);
        }
    }

    private static void textIsOfNoState() {
        topic("A state is everything but the text");
        ColumnSeasons x = new ColumnSeasons();
        write(x, "row");
        x.row();
        x.keep();
        write(x, "drop 0;");
        x.undo();
        due("count(8) behind undo()", x.count(8), 7);
        due("perform()", x.perform(), -10107);
        x.restore();
        due("count(8) behind restore()", x.count(8), 7);
        x.clearText();
        x.undo();
        x.restore();
        due("count(8)", x.count(8), 0);
        due("perform()", x.perform(), -10100);
        write(x, "row");
        x.perform();
        due("count(8) behind perform()", x.count(8), 3);
        x.undo();
        due("count(8) behind its undo()", x.count(8), 3);
    }

    private static void stopIsOfNoState() {
        topic("A state is everything but the latest stop");
        ColumnSeasons x = new ColumnSeasons();
        x.row();
        x.keep();
        x.row();
        perform(x, "row;drop 0");
        due("stopped(0)", x.stopped(0), 1);
        x.undo();
        due("stopped(0) behind undo()", x.stopped(0), 1);
        due("stopped(1)", x.stopped(1), UNKNOWN);
        x.restore();
        due("stopped(0) behind restore()", x.stopped(0), 1);
        due("stopped(1)", x.stopped(1), UNKNOWN);
        perform(x, "add 0 flag;row;add 0 flag");
        x.undo();
        due("stopped(0)", x.stopped(0), 2);
        due("stopped(1)", x.stopped(1), NOT_POSSIBLE);
    }

    private static void historyIsOfNoState() {
        topic("A state is everything but the history");
        ColumnSeasons x = withRows(1);
        x.keep();
        due("count(7)", x.count(7), 2);
        x.row();
        x.row();
        due("restore()", x.restore(), 1);
        due("count(7)", x.count(7), 4);
        x.row();
        due("count(7)", x.count(7), 4);
        due("undo()", x.undo(), 3);
        due("undo()", x.undo(), 2);
        due("count(2)", x.count(2), 3);
        due("undo()", x.undo(), 1);
        due("count(2)", x.count(2), 2);
        due("undo()", x.undo(), 0);
        due("count(2)", x.count(2), 1);
        due("undo()", x.undo(), NONE);
        due("restore()", x.restore(), 1);
        due("count(7)", x.count(7), 1);
    }

    private static void snapshotIsOfNoState() {
        topic("A state is everything but the snapshot");
        ColumnSeasons x = new ColumnSeasons();
        x.row();
        x.keep();
        x.undo();
        due("restore() behind the undo() of a state ahead of keep()", x.restore(), 1);
        x.row();
        x.keep();
        x.undo();
        due("restore()", x.restore(), 2);
    }
}
