/** The boundaries of texts of commands: their length, what is allowed at each place, and where their fault is. */
public final class EdgesOfTexts extends TestBase {
    private static final String END = "!";

    // A text that has no fault yet, and all signs that are allowed behind it; END among them if it may end there.
    private static final String[][] NEXT = {
        {"", "adkrs"},
        {"a", "d"}, {"ad", "d"}, {"add", " "}, {"add ", "01234567"}, {"add 0", " "}, {"add 7", " "}, {"add 0 ", "fdn"},
        {"add 0 f", "l"}, {"add 0 fl", "a"}, {"add 0 fla", "g"}, {"add 0 flag", " ;!"}, {"add 0 flag ", "01"},
        {"add 0 flag 0", ";!"}, {"add 0 flag 1", ";!"},
        {"add 7 d", "i"}, {"add 7 di", "g"}, {"add 7 dig", "i"}, {"add 7 digi", "t"}, {"add 7 digit", " ;!"},
        {"add 7 digit ", "0123456789"}, {"add 7 digit 0", ";!"}, {"add 7 digit 1", ";!"}, {"add 7 digit 9", ";!"},
        {"add 3 n", "u"}, {"add 3 nu", "m"}, {"add 3 num", "b"}, {"add 3 numb", "e"}, {"add 3 numbe", "r"},
        {"add 3 number", " ;!"}, {"add 3 number ", "-0123456789"}, {"add 3 number -", "123456789"},
        {"add 3 number 0", ";!"}, {"add 3 number 1", "0123456789;!"}, {"add 3 number 9", "0123456789;!"},
        {"add 3 number 10", "0123456789;!"}, {"add 3 number 99", "0123456789;!"}, {"add 3 number 100", "0123456789;!"},
        {"add 3 number 999", "0123456789;!"}, {"add 3 number 1000", ";!"}, {"add 3 number 9999", ";!"},
        {"add 3 number -1", "0123456789;!"}, {"add 3 number -9", "0123456789;!"}, {"add 3 number -99", "0123456789;!"},
        {"add 3 number -999", "0123456789;!"}, {"add 3 number -1000", ";!"}, {"add 3 number -9999", ";!"},
        {"d", "r"}, {"dr", "o"}, {"dro", "p"}, {"drop", " "}, {"drop ", "01234567"}, {"drop 0", ";!"}, {"drop 7", ";!"},
        {"k", "i"}, {"ki", "n"}, {"kin", "d"}, {"kind", " "}, {"kind ", "01234567"}, {"kind 0", " "}, {"kind 7", " "},
        {"kind 0 ", "fdn"}, {"kind 0 fla", "g"}, {"kind 0 flag", ";!"}, {"kind 0 digi", "t"}, {"kind 0 digit", ";!"},
        {"kind 0 numbe", "r"}, {"kind 0 number", ";!"},
        {"r", "o"}, {"ro", "w"}, {"row", ";!"},
        {"s", "e"}, {"se", "t"}, {"set", " "}, {"set ", "0123456789"}, {"set 0", " "}, {"set 1", " 0123456789"},
        {"set 2", " 0123"}, {"set 3", " "}, {"set 4", " "}, {"set 9", " "}, {"set 10", " "}, {"set 19", " "},
        {"set 20", " "}, {"set 23", " "}, {"set 0 ", "01234567"}, {"set 23 ", "01234567"}, {"set 0 0", " "},
        {"set 9 7", " "}, {"set 0 0 ", "-0123456789"}, {"set 0 0 -", "123456789"}, {"set 0 0 0", ";!"},
        {"set 0 0 1", "0123456789;!"}, {"set 0 0 99", "0123456789;!"}, {"set 0 0 999", "0123456789;!"},
        {"set 0 0 1000", ";!"}, {"set 0 0 9999", ";!"}, {"set 0 0 -5", "0123456789;!"},
        {"set 0 0 -999", "0123456789;!"}, {"set 0 0 -1000", ";!"}, {"set 0 0 -9999", ";!"}};

    public static void main(String[] args) {
        eightyCharacters();
        anyCharacter();
        longestTexts();
        oneOrMoreCommands();
        twentyCommands();
        signsThatAreAllowedNext("");
        signsThatAreAllowedNext("row;");
        signsThatAreAllowedNext("set 23 7 -9999;");
        signsThatAreAllowedNext("add 0 number;drop 0;kind 7 digit;");
        oneBlank();
        noLeadingZeros();
        digitsThatAreTooMuch();
        firstFaultCounts();
        endsTooEarly();
        namesThatAreCarriedOut();
        defaultsThatAreCarriedOut();
        rowsThatAreCarriedOut();
        valuesThatAreCarriedOut();
        CHECKS.end();
    }

    // ---- length

    private static void eightyCharacters() {
        topic("There is a text of at most 80 characters, empty at first");
        ColumnSeasons x = new ColumnSeasons();
        due("count(8)", x.count(8), 0);
        due("clearText()", x.clearText(), 0);
        for (int length = 1; length <= 80; length++) {
            due("type()", x.type('r'), length);
            due("count(8)", x.count(8), length);
        }
        due("the 81st", x.type('r'), FULL);
        due("the 82nd", x.type(';'), FULL);
        due("count(8)", x.count(8), 80);
        due("clearText()", x.clearText(), 80);
        due("count(8)", x.count(8), 0);
        due("type()", x.type('r'), 1);
        due("nothing of the earlier text", x.perform(), -10101);
        for (int length : new int[] {1, 79, 80}) {
            ColumnSeasons y = new ColumnSeasons();
            write(y, "x".repeat(length));
            due("clearText()", y.clearText(), length);
            due("clearText() again", y.clearText(), 0);
            due("perform()", y.perform(), -10100);
        }
    }

    private static void anyCharacter() {
        topic("any character");
        int[] characters = {0, 1, 10, 31, 127, 128, 255, 256, 255 + ';', 0x7fff, 0x8000, 0xd800, 0xffff};
        for (int character : characters) {
            ColumnSeasons x = new ColumnSeasons();
            due("type((char) " + character + ")", x.type((char) character), 1);
            due("perform()", x.perform(), -10100);
            write(x, "row");
            due("type((char) " + character + ")", x.type((char) character), 4);
            due("perform()", x.perform(), -10103);
        }
    }

    private static void longestTexts() {
        topic("a text of 80 characters");
        String rows = "row;".repeat(17);
        due("79 characters", perform(new ColumnSeasons(), rows + "add 0 digit"), 18);
        ColumnSeasons x = new ColumnSeasons();
        due("80 characters", perform(x, rows + "add 0 number"), 18);
        due("the 81st", x.type('x'), FULL);
        x.clearText();
        write(x, rows + "add 1 digit 33");
        due("what did not fit is not of the text", x.count(8), 80);
        due("fault at the end", x.perform(), -10180);
        due("fault at the last character", faultOf(rows + "add 0 numbex"), 79);
        due("ends too early with 79", faultOf(rows + "add 0 numbe"), 79);
        due("ends too early with 80", faultOf(rows + "add 0 digit "), 80);
        due("a command that ends there", faultOf(rows + "drop 0;row;x"), 79);
        due("';' as the last one", faultOf(rows + "kind 0 flag;"), 80);
    }

    // ---- commands

    private static void oneOrMoreCommands() {
        topic("A text of commands is one or more commands with \";\" between two");
        due("none", faultOf(""), 0);
        due("one", perform(new ColumnSeasons(), "row"), 1);
        due("two", perform(new ColumnSeasons(), "row;row"), 2);
        due("three", perform(new ColumnSeasons(), "row;row;row"), 3);
        due("';' alone", faultOf(";"), 0);
        due("';' ahead", faultOf(";row"), 0);
        due("';' behind", faultOf("row;"), 4);
        due("two of them", faultOf("row;;row"), 4);
        due("none between", faultOf("rowrow"), 3);
        due("a blank between", faultOf("row row"), 3);
        due("a blank behind ';'", faultOf("row; row"), 4);
        due("a blank ahead of ';'", faultOf("row ;row"), 3);
        due("another sign between", faultOf("row,row"), 3);
        due("':' between", faultOf("row:row"), 3);
        due("'<' between", faultOf("row<row"), 3);
    }

    private static void twentyCommands() {
        topic("as many commands as the text has room for");
        for (int commands = 1; commands <= 20; commands++) {
            ColumnSeasons x = new ColumnSeasons();
            due(commands + " commands", perform(x, "row;".repeat(commands - 1) + "row"), commands);
            due("rows", x.count(2), commands);
            due("one act", x.count(7), 1);
            due(commands + " and ';'", faultOf("row;".repeat(commands)), 4 * commands);
        }
        due("20 commands and a sign", faultOf("row;".repeat(19) + "rowx"), 79);
        due("19 commands and a sign", faultOf("row;".repeat(18) + "row;x"), 76);
        due("20 commands ahead of a blank", faultOf("row;".repeat(19) + "row "), 79);
    }

    /** All signs behind the text: 0 to 255, and those whose last eight bits are those of an allowed one. */
    private static void signsThatAreAllowedNext(String ahead) {
        topic("the first character that is not allowed at its place, behind '" + ahead + "'");
        for (String[] next : NEXT) {
            String text = ahead + next[0];
            String allowed = next[1].replace(END, "");
            boolean mayEnd = !allowed.equals(next[1]);
            due("'" + text + "' alone", faultOf(text), mayEnd ? NO_FAULT : text.length());
            for (int sign = 0; sign < 512; sign++) {
                boolean isAllowed = sign < 256 && allowed.indexOf(sign) >= 0;
                int fault = faultOf(text + (char) sign);
                String what = "'" + text + "' and the sign " + sign + " have the fault " + fault;
                if (isAllowed) {
                    CHECKS.dueThat(what, fault == NO_FAULT || fault == text.length() + 1);
                } else {
                    CHECKS.dueThat(what, fault == text.length());
                }
            }
        }
    }

    private static void oneBlank() {
        topic("there is one blank ahead of each number and each kind");
        String[] texts = {"add 3 digit 5", "add 3 number -5", "drop 3", "kind 3 flag", "set 12 3 5", "set 5 3 -5"};
        for (String text : texts) {
            due("'" + text + "'", faultOf(text), NO_FAULT);
            for (int blank = text.indexOf(' '); blank >= 0; blank = text.indexOf(' ', blank + 1)) {
                String ahead = text.substring(0, blank);
                String behind = text.substring(blank + 1);
                due("none in '" + text + "' at " + blank, faultOf(ahead + behind), blank);
                due("two in '" + text + "' at " + blank, faultOf(ahead + "  " + behind), blank + 1);
                due("a tab in '" + text + "' at " + blank, faultOf(ahead + "\t" + behind), blank);
            }
            due("one at the end of '" + text + "'", faultOf(text + " "), text.length());
            due("one ahead of '" + text + "'", faultOf(" " + text), 0);
        }
        due("behind a kind there may be one, but then a number is due", faultOf("add 3 flag "), 11);
        due("and not ';'", faultOf("add 3 flag ;row"), 11);
    }

    private static void noLeadingZeros() {
        topic("Numbers do not begin with 0, unless they are the single digit 0 (without \"-\")");
        String[] ahead = {"add 3 number ", "set 0 0 "};
        for (String text : ahead) {
            int first = text.length();
            due("'" + text + "0'", faultOf(text + "0"), NO_FAULT);
            due("'" + text + "00'", faultOf(text + "00"), first + 1);
            due("'" + text + "01'", faultOf(text + "01"), first + 1);
            due("'" + text + "-0'", faultOf(text + "-0"), first + 1);
            due("'" + text + "-01'", faultOf(text + "-01"), first + 1);
            due("'" + text + "-1'", faultOf(text + "-1"), NO_FAULT);
            due("'" + text + "-10'", faultOf(text + "-10"), NO_FAULT);
            due("'" + text + "10'", faultOf(text + "10"), NO_FAULT);
            due("'" + text + "--1'", faultOf(text + "--1"), first + 1);
            due("'" + text + "1-'", faultOf(text + "1-"), first + 1);
            due("'" + text + "+1'", faultOf(text + "+1"), first);
        }
        due("a flag", faultOf("add 3 flag 00"), 12);
        due("a flag", faultOf("add 3 flag 01"), 12);
        due("a digit", faultOf("add 3 digit 05"), 13);
        due("a digit", faultOf("add 3 digit -0"), 12);
        due("a row", faultOf("set 00 0 0"), 5);
        due("a row", faultOf("set 05 0 0"), 5);
        due("a row", faultOf("set -0 0 0"), 4);
        due("a row", faultOf("set 0 0 0"), NO_FAULT);
        due("a name", faultOf("drop 00"), 6);
        due("a name", faultOf("drop 01"), 6);
        due("a name", faultOf("drop -0"), 5);
    }

    private static void digitsThatAreTooMuch() {
        topic("a digit by which a number would be greater than told is not allowed");
        due("flag 1", faultOf("add 0 flag 1"), NO_FAULT);
        due("flag 2", faultOf("add 0 flag 2"), 11);
        due("flag 10", faultOf("add 0 flag 10"), 12);
        due("digit 9", faultOf("add 0 digit 9"), NO_FAULT);
        due("digit 10", faultOf("add 0 digit 10"), 13);
        due("digit 90", faultOf("add 0 digit 90"), 13);
        due("number 9998", faultOf("add 0 number 9998"), NO_FAULT);
        due("number 9999", faultOf("add 0 number 9999"), NO_FAULT);
        due("number 10000", faultOf("add 0 number 10000"), 17);
        due("number 99999", faultOf("add 0 number 99999"), 17);
        due("number -9999", faultOf("add 0 number -9999"), NO_FAULT);
        due("number -10000", faultOf("add 0 number -10000"), 18);
        due("value 9999", faultOf("set 0 0 9999"), NO_FAULT);
        due("value 10000", faultOf("set 0 0 10000"), 12);
        due("value -9999", faultOf("set 0 0 -9999"), NO_FAULT);
        due("value -10000", faultOf("set 0 0 -10000"), 13);
        due("value 429496729600", faultOf("set 0 0 429496729600"), 12);
        due("row 22", faultOf("set 22 0 0"), NO_FAULT);
        due("row 23", faultOf("set 23 0 0"), NO_FAULT);
        due("row 24", faultOf("set 24 0 0"), 5);
        due("row 29", faultOf("set 29 0 0"), 5);
        due("row 30", faultOf("set 30 0 0"), 5);
        due("row 99", faultOf("set 99 0 0"), 5);
        due("row 100", faultOf("set 100 0 0"), 6);
        due("row 230", faultOf("set 230 0 0"), 6);
        due("name 7", faultOf("drop 7"), NO_FAULT);
        due("name 8", faultOf("drop 8"), 5);
        due("name 9", faultOf("drop 9"), 5);
        due("name 10", faultOf("drop 10"), 6);
        due("name 8 of set", faultOf("set 0 8 0"), 6);
        due("name 8 of add", faultOf("add 8 flag"), 4);
        due("name 8 of kind", faultOf("kind 8 flag"), 5);
        due("a number below a range", faultOf("add 0 digit -1"), 12);
        due("a number below a range", faultOf("add 0 flag -1"), 11);
        due("a number below a range", faultOf("set -1 0 0"), 4);
        due("a number below a range", faultOf("drop -1"), 5);
    }

    private static void firstFaultCounts() {
        topic("The fault of the text is the index of the first character that is not allowed");
        due("two faults", faultOf("row;drop 8;drop 9"), 9);
        due("a fault and an early end", faultOf("row;xrow;"), 4);
        due("a fault in the last command", faultOf("row;row;row;rowe"), 15);
        due("a fault at the first character", faultOf("Row"), 0);
        due("a fault at the second character", faultOf("rOw"), 1);
        ColumnSeasons x = new ColumnSeasons();
        due("a fault goes ahead of a command that would be stopped", perform(x, "drop 0;drop 8"), -10112);
        due("and stops nothing", x.stopped(0), NONE);
        due("a fault behind commands that could be done", perform(x, "row;row;x"), -10108);
        due("rows", x.count(2), 0);
        due("history", x.count(7), 0);
    }

    private static void endsTooEarly() {
        topic("or the length of the text if it ends too early (the empty text does)");
        due("the empty text", faultOf(""), 0);
        String[] whole = {"add 7 flag", "add 7 digit", "add 7 number", "drop 7", "kind 7 flag", "kind 7 digit",
            "kind 7 number", "row", "set 9 7 5"};
        for (String text : whole) {
            due("'" + text + "'", faultOf(text), NO_FAULT);
            for (int end = 0; end < text.length(); end++) {
                String part = text.substring(0, end);
                due("'" + part + "'", faultOf(part), end);
                due("behind a command, '" + part + "'", faultOf("drop 0;" + part), 7 + end);
                due("ahead of one, '" + part + "'", faultOf(part + ";row"), end);
            }
        }
        due("'add 7 digit '", faultOf("add 7 digit "), 12);
        due("'add 7 number -'", faultOf("add 7 number -"), 14);
        due("'set 9 7 -'", faultOf("set 9 7 -"), 9);
    }

    // ---- what the commands do

    private static void namesThatAreCarriedOut() {
        topic("a name (0 to 7) and a kind (\"flag\", \"digit\" or \"number\") in a text");
        for (int name = 0; name <= 7; name++) {
            for (int kind = FLAG; kind <= NUMBER; kind++) {
                int other = (kind + 1) % 3;
                ColumnSeasons x = new ColumnSeasons();
                due("add", perform(x, "add " + name + " " + KIND_WORDS[kind]), 1);
                due("its names", x.season(1, 1), 1 << name);
                due("its kind", x.column(1, name, 0), kind);
                due("0 without a default", x.column(1, name, 1), 0);
                due("kind", perform(x, "kind " + name + " " + KIND_WORDS[other]), 1);
                due("its kind", x.column(2, name, 0), other);
                x.row();
                due("set", perform(x, "set 0 " + name + " 1"), 1);
                due("value", x.value(0, name), 1);
                due("drop", perform(x, "drop " + name), 1);
                due("its names", x.season(3, 1), 0);
            }
        }
    }

    private static void defaultsThatAreCarriedOut() {
        topic("perhaps a default (a number of the kind's range, \"-\" ahead of one below 0; 0 without it)");
        for (int kind = FLAG; kind <= NUMBER; kind++) {
            int least = LEAST_OF_KIND[kind];
            int greatest = GREATEST_OF_KIND[kind];
            for (int standard : new int[] {-9999, -9998, -1000, -10, -1, 0, 1, 2, 8, 9, 10, 1000, 9998, 9999}) {
                ColumnSeasons x = new ColumnSeasons();
                int answer = perform(x, "add 5 " + KIND_WORDS[kind] + " " + standard);
                String what = standard + " of kind " + kind;
                if (standard >= least && standard <= greatest) {
                    due(what, answer, 1);
                    due("default, " + what, x.column(1, 5, 1), standard);
                } else {
                    CHECKS.dueThat(what + " is a fault", answer <= -10100);
                    due("count(0), " + what, x.count(0), 0);
                }
            }
        }
        ColumnSeasons x = new ColumnSeasons();
        due("a default, and then none", perform(x, "add 0 number -77;add 1 number;add 2 digit;add 3 flag"), 4);
        for (int name = 1; name <= 3; name++) {
            due("0 without it", x.column(4, name, 1), 0);
        }
    }

    private static void rowsThatAreCarriedOut() {
        topic("\"set\" and a row (0 to 23)");
        ColumnSeasons full = withRows(24);
        for (int row : new int[] {0, 1, 9, 10, 11, 19, 20, 22, 23}) {
            due("set " + row, perform(full, "set " + row + " 0 -500"), 1);
            due("value(" + row + ", 0)", full.value(row, 0), -500);
            full.undo();
            due("value(" + row + ", 0)", full.value(row, 0), row);
        }
        for (int row : new int[] {1, 9, 10, 23}) {
            ColumnSeasons x = withRows(row);
            due("set of the last row", perform(x, "set " + (row - 1) + " 0 -500"), 1);
            due("set of the row behind it", perform(x, "set " + row + " 0 -500"), NOT_POSSIBLE);
            due("its cause", x.stopped(1), UNKNOWN);
            due("with the row ahead of it", perform(x, "row;set " + row + " 0 -500"), 2);
        }
    }

    private static void valuesThatAreCarriedOut() {
        topic("a value (-9999 to 9999)");
        for (int kind = FLAG; kind <= NUMBER; kind++) {
            for (int value : new int[] {-9999, -1000, -10, -1, 0, 1, 2, 9, 10, 99, 1000, 9998, 9999}) {
                boolean isOfKind = value >= LEAST_OF_KIND[kind] && value <= GREATEST_OF_KIND[kind];
                ColumnSeasons x = new ColumnSeasons();
                x.add(4, kind, 0);
                x.row();
                String what = value + " of kind " + kind;
                due(what, perform(x, "set 0 4 " + value), isOfKind ? 1 : NOT_POSSIBLE);
                due("value(0, 4), " + what, x.value(0, 4), isOfKind ? value : 0);
                due("stopped(1), " + what, x.stopped(1), isOfKind ? NONE : BAD);
            }
        }
    }
}
