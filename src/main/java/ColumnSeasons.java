import java.util.Arrays;

/** A table whose columns come and go in seasons; what each call promises stands in shared/DOC.md. */
public final class ColumnSeasons {
    public static final int UNKNOWN = -10001;
    public static final int BAD_VALUE = -10002;
    public static final int FULL = -10003;
    public static final int NOT_POSSIBLE = -10004;
    public static final int NONE = -10005;

    private static final int NAMES = 8;
    private static final int SEASON_ROOM = 30;
    private static final int ROW_ROOM = 24;
    private static final int TEXT_ROOM = 80;
    private static final int HISTORY_ROOM = 4;

    // The kinds are numbered from the narrowest to the widest one: a view takes the greatest number.
    private static final int NO_COLUMN = -1;
    private static final int FLAG = 0;
    private static final int DIGIT = 1;
    private static final int NUMBER = 2;
    private static final int GREATEST_NUMBER = 9999;

    private static final int OWN = 0;
    private static final int CAST = 1;
    private static final int CAST_WITH_LOSS = 2;
    private static final int STANDS_IN = 3;

    private static final int NO_FAULT = -1;
    private static final int NO_STOP = -1;
    private static final int TEXT_HAS_FAULT = -10100;

    private final Table table = new Table();
    private final History history = new History();
    private final Table snapshot = new Table();
    private boolean hasSnapshot = false;
    private final Script script = new Script();
    private int stoppedCommand = NO_STOP;
    private int stoppedError = NO_STOP;

    public ColumnSeasons() {
    }

    // ---- columns

    public int add(int name, int kind, int standard) {
        history.prepare(table);
        return recordIfDone(table.addColumn(name, kind, standard));
    }

    public int drop(int name) {
        history.prepare(table);
        return recordIfDone(table.dropColumn(name));
    }

    public int kind(int name, int kind) {
        history.prepare(table);
        return recordIfDone(table.changeKind(name, kind));
    }

    // ---- rows

    public int row() {
        history.prepare(table);
        return recordIfDone(table.writeRow());
    }

    public int set(int row, int name, int value) {
        history.prepare(table);
        return recordIfDone(table.changeValue(row, name, value));
    }

    public int remove(int row) {
        history.prepare(table);
        return recordIfDone(table.removeRow(row));
    }

    public int makeOver(int from, int to) {
        history.prepare(table);
        return recordIfDone(table.makeRowsOver(from, to));
    }

    public int forget() {
        history.prepare(table);
        return recordIfDone(table.forgetSeasons());
    }

    // ---- texts

    public int type(char character) {
        return script.append(character);
    }

    public int clearText() {
        int length = script.length;
        script.length = 0;
        return length;
    }

    public int perform() {
        int fault = script.findFault();
        if (fault != NO_FAULT) {
            return TEXT_HAS_FAULT - fault;
        }
        history.prepare(table);
        for (int i = 0; i < script.commandCount; i++) {
            int answer = carryOut(script.commands[i]);
            if (isError(answer)) {
                stoppedCommand = i;
                stoppedError = answer;
                table.copyFrom(history.prepared());
                return NOT_POSSIBLE;
            }
        }
        history.record();
        return script.commandCount;
    }

    public int stopped(int what) {
        if (what < 0 || what > 1) {
            return BAD_VALUE;
        }
        if (stoppedCommand == NO_STOP) {
            return NONE;
        }
        return what == 0 ? stoppedCommand : stoppedError;
    }

    // ---- history

    public int undo() {
        if (history.length == 0) {
            return NONE;
        }
        history.takeLatestInto(table);
        return history.length;
    }

    public int keep() {
        snapshot.copyFrom(table);
        hasSnapshot = true;
        return table.rows;
    }

    public int restore() {
        if (!hasSnapshot) {
            return NONE;
        }
        history.prepare(table);
        table.copyFrom(snapshot);
        history.record();
        return table.rows;
    }

    // ---- what is told

    public int column(int season, int name, int what) {
        if (!table.isSeason(season) || !isName(name)) {
            return UNKNOWN;
        }
        if (what < 0 || what > 1) {
            return BAD_VALUE;
        }
        int itsKind = table.kindIn(season, name);
        if (itsKind == NO_COLUMN) {
            return NONE;
        }
        return what == 0 ? itsKind : table.standardIn(season, name);
    }

    public int season(int season, int what) {
        if (!table.isSeason(season)) {
            return UNKNOWN;
        }
        switch (what) {
            case 0:
                return Integer.bitCount(table.namesIn(season));
            case 1:
                return table.namesIn(season);
            case 2:
                return table.rowsOfSeason(season);
            case 3:
                return table.newColumnsIn(season);
            default:
                return BAD_VALUE;
        }
    }

    public int value(int row, int name) {
        if (!table.isRow(row) || !isName(name)) {
            return UNKNOWN;
        }
        return table.kindInRow(row, name) == NO_COLUMN ? NONE : table.valueAt(row, name);
    }

    public int read(int row, int season, int name, int what) {
        if (!table.isRow(row) || !table.isSeason(season) || !isName(name)) {
            return UNKNOWN;
        }
        if (what < 0 || what > 1) {
            return BAD_VALUE;
        }
        if (table.kindIn(season, name) == NO_COLUMN) {
            return NONE;
        }
        return what == 0 ? table.readIn(season, row, name) : table.howReadIn(season, row, name);
    }

    public int seasonOf(int row) {
        return table.isRow(row) ? table.seasonOfRow(row) : UNKNOWN;
    }

    public int view(int from, int to, int what) {
        if (!table.isRow(from) || !table.isRow(to)) {
            return UNKNOWN;
        }
        switch (what) {
            case 0:
                return table.sharedNames(from, to);
            case 1:
                return Math.max(0, to - from + 1);
            case 2:
                return table.defaultsInView(from, to);
            default:
                return BAD_VALUE;
        }
    }

    public int viewColumn(int from, int to, int name, int what) {
        if (!table.isRow(from) || !table.isRow(to) || !isName(name)) {
            return UNKNOWN;
        }
        if (what < 0 || what > 4) {
            return BAD_VALUE;
        }
        if (!hasName(table.sharedNames(from, to), name)) {
            return NONE;
        }
        switch (what) {
            case 0:
                return table.widestKind(from, to, name);
            case 1:
                return table.sumOfValues(from, to, name);
            case 2:
                return table.leastValue(from, to, name);
            case 3:
                return table.greatestValue(from, to, name);
            default:
                return table.unlikeValues(from, to, name);
        }
    }

    public int bestFrom() {
        return table.rows == 0 ? NONE : table.firstRowOfWidestView();
    }

    public int bestSeason(int what) {
        if (what < 0 || what > 1) {
            return BAD_VALUE;
        }
        int best = table.seasonOfFewestLosses();
        return what == 0 ? best : table.lossesIn(best);
    }

    public int count(int what) {
        switch (what) {
            case 0:
                return table.now();
            case 1:
                return Integer.bitCount(table.namesIn(table.now()));
            case 2:
                return table.rows;
            case 3:
                return table.rowsOfSeason(table.now());
            case 4:
                return table.valuesOfAllRows();
            case 5:
                return table.lossesIn(table.now());
            case 6:
                return table.namesOfAllSeasons();
            case 7:
                return history.length;
            case 8:
                return script.length;
            default:
                return BAD_VALUE;
        }
    }

    // ---- help for the calls

    private int recordIfDone(int answer) {
        if (!isError(answer) && answer != NONE) {
            history.record();
        }
        return answer;
    }

    private int carryOut(Command command) {
        switch (command.verb) {
            case Command.ADD:
                return table.addColumn(command.name, command.kind, command.number);
            case Command.DROP:
                return table.dropColumn(command.name);
            case Command.KIND:
                return table.changeKind(command.name, command.kind);
            case Command.ROW:
                return table.writeRow();
            default:
                return table.changeValue(command.row, command.name, command.number);
        }
    }

    // Values go down to -9999, so an answer below 0 is not yet an error.
    private static boolean isError(int answer) {
        return answer <= UNKNOWN && answer != NONE;
    }

    private static boolean isName(int name) {
        return name >= 0 && name < NAMES;
    }

    private static boolean isKind(int kind) {
        return kind >= FLAG && kind <= NUMBER;
    }

    private static boolean hasName(int names, int name) {
        return (names & (1 << name)) != 0;
    }

    private static int leastOfKind(int kind) {
        return kind == NUMBER ? -GREATEST_NUMBER : 0;
    }

    private static int greatestOfKind(int kind) {
        if (kind == FLAG) {
            return 1;
        }
        return kind == DIGIT ? 9 : GREATEST_NUMBER;
    }

    private static boolean isOfKind(int value, int kind) {
        return value >= leastOfKind(kind) && value <= greatestOfKind(kind);
    }

    private static int castTo(int kind, int value) {
        if (kind == FLAG) {
            return value == 0 ? 0 : 1;
        }
        return Math.max(leastOfKind(kind), Math.min(greatestOfKind(kind), value));
    }

    private static boolean castLoses(int value, int had, int gets) {
        return castTo(had, castTo(gets, value)) != value;
    }

    /**
     * A state: the seasons with their dresses, and the rows. The acts test what they are given, because commands reach
     * them too; what only tells relies on the tests of the face.
     */
    private static final class Table {
        private int seasons = 1;
        private final int[] kinds = new int[SEASON_ROOM * NAMES];
        private final int[] standards = new int[SEASON_ROOM * NAMES];
        private int rows = 0;
        private final int[] rowSeasons = new int[ROW_ROOM];
        private final int[] values = new int[ROW_ROOM * NAMES];

        Table() {
            Arrays.fill(kinds, NO_COLUMN);
        }

        void copyFrom(Table other) {
            seasons = other.seasons;
            System.arraycopy(other.kinds, 0, kinds, 0, kinds.length);
            System.arraycopy(other.standards, 0, standards, 0, standards.length);
            rows = other.rows;
            System.arraycopy(other.rowSeasons, 0, rowSeasons, 0, rowSeasons.length);
            System.arraycopy(other.values, 0, values, 0, values.length);
        }

        // ---- acts on columns

        int addColumn(int name, int kind, int standard) {
            if (!isName(name)) {
                return UNKNOWN;
            }
            if (!isKind(kind) || !isOfKind(standard, kind)) {
                return BAD_VALUE;
            }
            if (kindIn(now(), name) != NO_COLUMN) {
                return NOT_POSSIBLE;
            }
            if (seasons >= SEASON_ROOM) {
                return FULL;
            }
            return beginSeasonWith(name, kind, standard);
        }

        int dropColumn(int name) {
            if (!isName(name) || kindIn(now(), name) == NO_COLUMN) {
                return UNKNOWN;
            }
            if (seasons >= SEASON_ROOM) {
                return FULL;
            }
            return beginSeasonWith(name, NO_COLUMN, 0);
        }

        int changeKind(int name, int kind) {
            if (!isName(name) || kindIn(now(), name) == NO_COLUMN) {
                return UNKNOWN;
            }
            if (!isKind(kind)) {
                return BAD_VALUE;
            }
            if (seasons >= SEASON_ROOM) {
                return FULL;
            }
            if (kindIn(now(), name) == kind) {
                return NONE;
            }
            return beginSeasonWith(name, kind, castTo(kind, standardIn(now(), name)));
        }

        private int beginSeasonWith(int name, int kind, int standard) {
            int last = now() * NAMES;
            int next = last + NAMES;
            System.arraycopy(kinds, last, kinds, next, NAMES);
            System.arraycopy(standards, last, standards, next, NAMES);
            kinds[next + name] = kind;
            standards[next + name] = standard;
            seasons++;
            return now();
        }

        // ---- acts on rows

        int writeRow() {
            if (rows >= ROW_ROOM) {
                return FULL;
            }
            System.arraycopy(standards, now() * NAMES, values, rows * NAMES, NAMES);
            rowSeasons[rows] = now();
            rows++;
            return rows - 1;
        }

        int changeValue(int row, int name, int value) {
            if (!isRow(row) || !isName(name) || kindInRow(row, name) == NO_COLUMN) {
                return UNKNOWN;
            }
            if (!isOfKind(value, kindInRow(row, name))) {
                return BAD_VALUE;
            }
            int previous = valueAt(row, name);
            if (previous == value) {
                return NONE;
            }
            values[row * NAMES + name] = value;
            return previous;
        }

        int removeRow(int row) {
            if (!isRow(row)) {
                return UNKNOWN;
            }
            int behind = rows - row - 1;
            System.arraycopy(rowSeasons, row + 1, rowSeasons, row, behind);
            System.arraycopy(values, (row + 1) * NAMES, values, row * NAMES, behind * NAMES);
            rows--;
            return rows;
        }

        int makeRowsOver(int from, int to) {
            if (!isRow(from) || !isRow(to)) {
                return UNKNOWN;
            }
            if (to < from) {
                return BAD_VALUE;
            }
            boolean anyMadeOver = false;
            int losses = 0;
            for (int row = from; row <= to; row++) {
                if (rowSeasons[row] != now()) {
                    anyMadeOver = true;
                    losses += lossesOfRowIn(now(), row);
                    dressRowInNow(row);
                }
            }
            return anyMadeOver ? losses : NONE;
        }

        private void dressRowInNow(int row) {
            for (int name = 0; name < NAMES; name++) {
                if (kindIn(now(), name) != NO_COLUMN) {
                    values[row * NAMES + name] = readIn(now(), row, name);
                }
            }
            // Only now: the values above are read out of the old dress.
            rowSeasons[row] = now();
        }

        int forgetSeasons() {
            int forgotten = now();
            for (int row = 0; row < rows; row++) {
                forgotten = Math.min(forgotten, rowSeasons[row]);
            }
            if (forgotten == 0) {
                return NONE;
            }
            seasons -= forgotten;
            System.arraycopy(kinds, forgotten * NAMES, kinds, 0, seasons * NAMES);
            System.arraycopy(standards, forgotten * NAMES, standards, 0, seasons * NAMES);
            for (int row = 0; row < rows; row++) {
                rowSeasons[row] -= forgotten;
            }
            return forgotten;
        }

        // ---- seasons

        int now() {
            return seasons - 1;
        }

        boolean isSeason(int season) {
            return season >= 0 && season < seasons;
        }

        int kindIn(int season, int name) {
            return kinds[season * NAMES + name];
        }

        int standardIn(int season, int name) {
            return standards[season * NAMES + name];
        }

        int namesIn(int season) {
            int names = 0;
            for (int name = 0; name < NAMES; name++) {
                if (kindIn(season, name) != NO_COLUMN) {
                    names |= 1 << name;
                }
            }
            return names;
        }

        int namesOfAllSeasons() {
            int names = 0;
            for (int season = 0; season < seasons; season++) {
                names |= namesIn(season);
            }
            return names;
        }

        int newColumnsIn(int season) {
            if (season == 0) {
                return 0;
            }
            int found = 0;
            for (int name = 0; name < NAMES; name++) {
                int itsKind = kindIn(season, name);
                if (itsKind != NO_COLUMN && itsKind != kindIn(season - 1, name)) {
                    found++;
                }
            }
            return found;
        }

        int rowsOfSeason(int season) {
            int found = 0;
            for (int row = 0; row < rows; row++) {
                if (rowSeasons[row] == season) {
                    found++;
                }
            }
            return found;
        }

        // ---- rows, and how they are read

        boolean isRow(int row) {
            return row >= 0 && row < rows;
        }

        int seasonOfRow(int row) {
            return rowSeasons[row];
        }

        int kindInRow(int row, int name) {
            return kindIn(rowSeasons[row], name);
        }

        int valueAt(int row, int name) {
            return values[row * NAMES + name];
        }

        int valuesOfAllRows() {
            int found = 0;
            for (int row = 0; row < rows; row++) {
                found += Integer.bitCount(namesIn(rowSeasons[row]));
            }
            return found;
        }

        int readIn(int season, int row, int name) {
            if (kindInRow(row, name) == NO_COLUMN) {
                return standardIn(season, name);
            }
            return castTo(kindIn(season, name), valueAt(row, name));
        }

        int howReadIn(int season, int row, int name) {
            int had = kindInRow(row, name);
            int gets = kindIn(season, name);
            if (had == NO_COLUMN) {
                return STANDS_IN;
            }
            if (had == gets) {
                return OWN;
            }
            return castLoses(valueAt(row, name), had, gets) ? CAST_WITH_LOSS : CAST;
        }

        int lossesOfRowIn(int season, int row) {
            int losses = 0;
            for (int name = 0; name < NAMES; name++) {
                int had = kindInRow(row, name);
                int gets = kindIn(season, name);
                if (had != NO_COLUMN && (gets == NO_COLUMN || castLoses(valueAt(row, name), had, gets))) {
                    losses++;
                }
            }
            return losses;
        }

        int lossesIn(int season) {
            int losses = 0;
            for (int row = 0; row < rows; row++) {
                losses += lossesOfRowIn(season, row);
            }
            return losses;
        }

        int seasonOfFewestLosses() {
            int best = now();
            int fewest = lossesIn(best);
            for (int season = best - 1; season >= 0; season--) {
                int losses = lossesIn(season);
                if (losses < fewest) {
                    best = season;
                    fewest = losses;
                }
            }
            return best;
        }

        // ---- views: a cast to the widest kind changes no value, so values are taken as they are

        int sharedNames(int from, int to) {
            if (to < from) {
                return 0;
            }
            int names = namesIn(rowSeasons[from]);
            for (int row = from + 1; row <= to; row++) {
                names &= namesIn(rowSeasons[row]);
            }
            return names;
        }

        int defaultsInView(int from, int to) {
            int names = sharedNames(from, to) & namesIn(now());
            int found = 0;
            for (int row = from; row <= to; row++) {
                for (int name = 0; name < NAMES; name++) {
                    if (hasName(names, name) && valueAt(row, name) == standardIn(now(), name)) {
                        found++;
                    }
                }
            }
            return found;
        }

        int widestKind(int from, int to, int name) {
            int widest = FLAG;
            for (int row = from; row <= to; row++) {
                widest = Math.max(widest, kindInRow(row, name));
            }
            return widest;
        }

        int sumOfValues(int from, int to, int name) {
            int sum = 0;
            for (int row = from; row <= to; row++) {
                sum += valueAt(row, name);
            }
            return sum;
        }

        int leastValue(int from, int to, int name) {
            int least = GREATEST_NUMBER;
            for (int row = from; row <= to; row++) {
                least = Math.min(least, valueAt(row, name));
            }
            return least;
        }

        int greatestValue(int from, int to, int name) {
            int greatest = -GREATEST_NUMBER;
            for (int row = from; row <= to; row++) {
                greatest = Math.max(greatest, valueAt(row, name));
            }
            return greatest;
        }

        int unlikeValues(int from, int to, int name) {
            int unlike = 0;
            for (int row = from; row <= to; row++) {
                if (isFirstOfItsValue(from, row, name)) {
                    unlike++;
                }
            }
            return unlike;
        }

        private boolean isFirstOfItsValue(int from, int row, int name) {
            for (int earlier = from; earlier < row; earlier++) {
                if (valueAt(earlier, name) == valueAt(row, name)) {
                    return false;
                }
            }
            return true;
        }

        int firstRowOfWidestView() {
            int names = (1 << NAMES) - 1;
            int best = 0;
            int most = 0;
            // Upwards, because a view that begins a row earlier shows what all rows behind share, or less.
            for (int row = rows - 1; row >= 0; row--) {
                names &= namesIn(rowSeasons[row]);
                int shown = Integer.bitCount(names);
                if (shown >= most) {
                    best = row;
                    most = shown;
                }
            }
            return best;
        }
    }

    /**
     * The latest states, in a ring. It has one slot more than it keeps: the state is copied there ahead of an act, and
     * counts only if the act is done.
     */
    private static final class History {
        private static final int SLOTS = HISTORY_ROOM + 1;
        private final Table[] slots = new Table[SLOTS];
        private int oldest = 0;
        private int length = 0;

        History() {
            for (int i = 0; i < SLOTS; i++) {
                slots[i] = new Table();
            }
        }

        Table prepared() {
            return slots[(oldest + length) % SLOTS];
        }

        void prepare(Table table) {
            prepared().copyFrom(table);
        }

        void record() {
            if (length < HISTORY_ROOM) {
                length++;
            } else {
                oldest = (oldest + 1) % SLOTS;
            }
        }

        void takeLatestInto(Table table) {
            if (length > 0) {
                length--;
                table.copyFrom(prepared());
            }
        }
    }

    /** A command as it was read; only the operands of its verb mean something. */
    private static final class Command {
        private static final int ADD = 0;
        private static final int DROP = 1;
        private static final int KIND = 2;
        private static final int ROW = 3;
        private static final int SET = 4;

        private int verb = ROW;
        private int row = 0;
        private int name = 0;
        private int kind = FLAG;
        private int number = 0;

        Command() {
        }
    }

    /**
     * The text, and the commands that were read out of it. What reads moves the place ahead over all that is allowed
     * there and answers whether it found what it wants: if it did not, the place is that of the fault.
     */
    private static final class Script {
        // The shortest command and its ";" take four characters.
        private static final int COMMAND_ROOM = TEXT_ROOM / 4;

        private final char[] text = new char[TEXT_ROOM];
        private int length = 0;
        private final Command[] commands = new Command[COMMAND_ROOM];
        private int commandCount = 0;
        private int place = 0;
        private int number = 0;

        Script() {
            for (int i = 0; i < COMMAND_ROOM; i++) {
                commands[i] = new Command();
            }
        }

        int append(char character) {
            if (length >= TEXT_ROOM) {
                return FULL;
            }
            text[length] = character;
            length++;
            return length;
        }

        int findFault() {
            place = 0;
            commandCount = 0;
            while (commandCount < COMMAND_ROOM && readCommand(commands[commandCount])) {
                commandCount++;
                if (place == length) {
                    return NO_FAULT;
                }
                if (!readSign(';')) {
                    return place;
                }
            }
            return place;
        }

        private boolean readCommand(Command command) {
            // No two verbs begin alike, so the first character tells which one it must be.
            if (isNext('a')) {
                command.verb = Command.ADD;
                return readWord("add") && readName(command) && readKind(command) && readDefault(command);
            }
            if (isNext('d')) {
                command.verb = Command.DROP;
                return readWord("drop") && readName(command);
            }
            if (isNext('k')) {
                command.verb = Command.KIND;
                return readWord("kind") && readName(command) && readKind(command);
            }
            if (isNext('r')) {
                command.verb = Command.ROW;
                return readWord("row");
            }
            command.verb = Command.SET;
            return readWord("set") && readRow(command) && readName(command) && readNumber(command);
        }

        private boolean readName(Command command) {
            if (!readOperand(0, NAMES - 1)) {
                return false;
            }
            command.name = number;
            return true;
        }

        private boolean readRow(Command command) {
            if (!readOperand(0, ROW_ROOM - 1)) {
                return false;
            }
            command.row = number;
            return true;
        }

        private boolean readNumber(Command command) {
            if (!readOperand(-GREATEST_NUMBER, GREATEST_NUMBER)) {
                return false;
            }
            command.number = number;
            return true;
        }

        private boolean readDefault(Command command) {
            command.number = 0;
            if (!isNext(' ')) {
                return true;
            }
            if (!readOperand(leastOfKind(command.kind), greatestOfKind(command.kind))) {
                return false;
            }
            command.number = number;
            return true;
        }

        private boolean readKind(Command command) {
            if (!readSign(' ')) {
                return false;
            }
            if (isNext('f')) {
                command.kind = FLAG;
                return readWord("flag");
            }
            if (isNext('d')) {
                command.kind = DIGIT;
                return readWord("digit");
            }
            command.kind = NUMBER;
            return readWord("number");
        }

        private boolean readOperand(int least, int greatest) {
            if (!readSign(' ')) {
                return false;
            }
            if (least < 0 && readSign('-')) {
                // 0 has no "-", and no number of several digits begins with 0.
                boolean isRead = !isNext('0') && readDigits(-least);
                number = -number;
                return isRead;
            }
            return readDigits(greatest);
        }

        // A digit that would make too great a number, or that stands behind a leading 0, stays unread: whatever has to
        // follow then finds it at its place.
        private boolean readDigits(int greatest) {
            int first = place;
            number = 0;
            while (place < length && isDigit(text[place]) && (place == first || number != 0)
                    && number * 10 + (text[place] - '0') <= greatest) {
                number = number * 10 + (text[place] - '0');
                place++;
            }
            return place > first;
        }

        private boolean readWord(String word) {
            for (int i = 0; i < word.length(); i++) {
                if (!readSign(word.charAt(i))) {
                    return false;
                }
            }
            return true;
        }

        private boolean readSign(char sign) {
            if (!isNext(sign)) {
                return false;
            }
            place++;
            return true;
        }

        private boolean isNext(char sign) {
            return place < length && text[place] == sign;
        }

        private static boolean isDigit(char sign) {
            return sign >= '0' && sign <= '9';
        }
    }
}
