/** What the tests of single answers share: the document's constants, tables to begin with, and checks. */
abstract class TestBase {
    static final int UNKNOWN = ColumnSeasons.UNKNOWN;
    static final int BAD = ColumnSeasons.BAD_VALUE;
    static final int FULL = ColumnSeasons.FULL;
    static final int NOT_POSSIBLE = ColumnSeasons.NOT_POSSIBLE;
    static final int NONE = ColumnSeasons.NONE;

    static final int FLAG = 0;
    static final int DIGIT = 1;
    static final int NUMBER = 2;
    static final int[] LEAST_OF_KIND = {0, 0, -9999};
    static final int[] GREATEST_OF_KIND = {1, 9, 9999};
    static final String[] KIND_WORDS = {"flag", "digit", "number"};

    static final int NO_FAULT = -1;

    // Among them such as become small ones when they are shifted, multiplied by 8, or cut to a byte.
    private static final int[] FAR = {Integer.MIN_VALUE, Integer.MIN_VALUE + 1, -(1 << 30), -(1 << 29), -(1 << 28),
        -65536, -10005, -10001, -256, -32, -31, -8, -2, 31, 32, 33, 40, 64, 256, 257, 65536, 1 << 28, 1 << 29, 1 << 30,
        Integer.MAX_VALUE - 1, Integer.MAX_VALUE};

    static final Checks CHECKS = new Checks();

    interface OneNumber {
        int answerFor(int number);
    }

    static void topic(String sentence) {
        CHECKS.topic(sentence);
    }

    static void due(String call, long got, long want) {
        CHECKS.due(call, got, want);
    }

    /** The numbers next to a range at its two sides, and those far from it, must all be answered with the error. */
    static void refusedOutside(String call, int least, int greatest, int error, OneNumber asked) {
        due(call + " of " + (least - 1), asked.answerFor(least - 1), error);
        due(call + " of " + (greatest + 1), asked.answerFor(greatest + 1), error);
        for (int number : FAR) {
            if (number < least || number > greatest) {
                due(call + " of " + number, asked.answerFor(number), error);
            }
        }
    }

    static void write(ColumnSeasons x, String text) {
        x.clearText();
        for (int i = 0; i < text.length(); i++) {
            x.type(text.charAt(i));
        }
    }

    static int perform(ColumnSeasons x, String text) {
        write(x, text);
        return x.perform();
    }

    static int faultOf(String text) {
        int answer = perform(new ColumnSeasons(), text);
        return answer > -10100 ? NO_FAULT : -10100 - answer;
    }

    /** So many seasons are kept then; the column 0 is there from the season 1 on, a number. */
    static ColumnSeasons withSeasons(int seasons) {
        ColumnSeasons x = new ColumnSeasons();
        if (seasons > 1) {
            x.add(0, NUMBER, 0);
        }
        for (int season = 2; season < seasons; season++) {
            if (season % 2 == 0) {
                x.add(1, FLAG, 0);
            } else {
                x.drop(1);
            }
        }
        return x;
    }

    static ColumnSeasons fullOfSeasons() {
        return withSeasons(30);
    }

    /** The rows have a column 0, a number: the value of each is its row's number. */
    static ColumnSeasons withRows(int rows) {
        ColumnSeasons x = new ColumnSeasons();
        x.add(0, NUMBER, 0);
        for (int i = 0; i < rows; i++) {
            x.row();
            x.set(i, 0, i);
        }
        return x;
    }
}
