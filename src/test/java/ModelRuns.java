import java.util.Random;

/** Runs of mixed calls, at most 512 on an object, that the program and the model must answer alike. */
public final class ModelRuns {
    private static final int RUNS = 1500;
    private static final int CALLS = 512;
    private static final int[] VALUES = {0, 0, 1, 1, 2, 5, 9, 10, -1, -7, 55, 9999, -9999, 10000, -10000};
    private static final int[] WILD = {-1, 8, 9, 24, 30, 31, Integer.MAX_VALUE, Integer.MIN_VALUE};
    private static final String[] KINDS = {"flag", "digit", "number"};

    private final Checks checks;
    private final Random random;
    private ColumnSeasons real;
    private Model model;
    private int calls;
    private StringBuilder log;

    private ModelRuns(Checks checks, long seed) {
        this.checks = checks;
        this.random = new Random(seed);
    }

    public static void main(String[] args) {
        Checks checks = new Checks();
        // One order of numbers each time: a run that fails must fail again.
        ModelRuns runs = new ModelRuns(checks, 20261119L);
        for (int run = 0; run < RUNS && checks.wrong() == 0; run++) {
            checks.topic("run " + run);
            runs.oneRun(run);
        }
        checks.end();
    }

    private void oneRun(int run) {
        real = new ColumnSeasons();
        model = new Model();
        calls = 0;
        log = new StringBuilder();
        int texts = run % 3;
        boolean manyRows = run % 5 == 0;
        boolean manySeasons = run % 7 == 0;
        while (calls < CALLS && checks.wrong() == 0) {
            int dice = random.nextInt(100);
            if (dice < 2 * texts && calls < CALLS - 90) {
                performText();
            } else if (dice < 50) {
                act(manyRows, manySeasons);
            } else {
                look();
            }
        }
        if (checks.wrong() != 0) {
            System.out.println(log);
        }
    }

    private void same(String call, int answer, int due) {
        calls++;
        log.append(call).append(" = ").append(due).append('\n');
        checks.due(call, answer, due);
    }

    private int wildly(int usual) {
        return random.nextInt(25) == 0 ? WILD[random.nextInt(WILD.length)] : usual;
    }

    private int upTo(int greatest) {
        return wildly(random.nextInt(Math.max(0, greatest) + 1));
    }

    // Few names, so that columns meet one another again.
    private int name() {
        return upTo(random.nextInt(3) == 0 ? 7 : 2);
    }

    private int row() {
        return upTo(model.count(2) - 1);
    }

    private int season() {
        return upTo(model.count(0));
    }

    private int value() {
        return VALUES[random.nextInt(VALUES.length)];
    }

    private void act(boolean manyRows, boolean manySeasons) {
        int a = name();
        int b = upTo(2);
        int c = value();
        int r = row();
        int s = row();
        switch (random.nextInt(manyRows ? 20 : 13)) {
            case 0: same("add(" + a + ", " + b + ", " + c + ")", real.add(a, b, c), model.add(a, b, c)); break;
            case 1:
                if (random.nextInt(3) == 0) same("drop(" + a + ")", real.drop(a), model.drop(a));
                break;
            case 2: same("kind(" + a + ", " + b + ")", real.kind(a, b), model.kind(a, b)); break;
            case 3: case 4: case 5: case 6:
                same("set(" + r + ", " + a + ", " + c + ")", real.set(r, a, c), model.set(r, a, c)); break;
            case 7:
                if (!manyRows) same("remove(" + r + ")", real.remove(r), model.remove(r));
                break;
            case 8:
                if (random.nextInt(4) == 0) {
                    same("makeOver(" + r + ", " + s + ")", real.makeOver(r, s), model.makeOver(r, s));
                }
                break;
            case 9:
                if (!manySeasons && random.nextInt(4) == 0) same("forget()", real.forget(), model.forget());
                break;
            case 10: historyCall(); break;
            default: same("row()", real.row(), model.row()); break;
        }
    }

    private void historyCall() {
        switch (random.nextInt(8)) {
            case 0: case 1: same("keep()", real.keep(), model.keep()); break;
            case 2: same("restore()", real.restore(), model.restore()); break;
            case 3: case 4: case 5: same("undo()", real.undo(), model.undo()); break;
            default: break;
        }
    }

    private void look() {
        int a = name();
        int r = row();
        int s = row();
        int t = season();
        int what = random.nextInt(20) == 0 ? -1 : random.nextInt(10);
        int one = what % 3;
        int four = what % 6;
        switch (random.nextInt(11)) {
            case 0:
                same("column(" + t + ", " + a + ", " + one + ")", real.column(t, a, one), model.column(t, a, one));
                break;
            case 1: same("season(" + t + ", " + four + ")", real.season(t, four), model.season(t, four)); break;
            case 2: same("value(" + r + ", " + a + ")", real.value(r, a), model.value(r, a)); break;
            case 3: case 4:
                same("read(" + r + ", " + t + ", " + a + ", " + one + ")",
                    real.read(r, t, a, one), model.read(r, t, a, one));
                break;
            case 5: same("seasonOf(" + r + ")", real.seasonOf(r), model.seasonOf(r)); break;
            case 6:
                same("view(" + r + ", " + s + ", " + four + ")", real.view(r, s, four), model.view(r, s, four));
                break;
            case 7:
                same("viewColumn(" + r + ", " + s + ", " + a + ", " + four + ")",
                    real.viewColumn(r, s, a, four), model.viewColumn(r, s, a, four));
                break;
            case 8: same("bestFrom()", real.bestFrom(), model.bestFrom()); break;
            case 9: same("bestSeason(" + one + ")", real.bestSeason(one), model.bestSeason(one)); break;
            default: same("count(" + what + ")", real.count(what), model.count(what)); break;
        }
        if (random.nextInt(10) == 0 && calls < CALLS) {
            same("stopped(" + one + ")", real.stopped(one), model.stopped(one));
        }
    }

    private void performText() {
        if (random.nextInt(6) != 0) {
            same("clearText()", real.clearText(), model.clearText());
        }
        String text = text();
        for (int i = 0; i < text.length() && calls < CALLS; i++) {
            char sign = text.charAt(i);
            same("type((char) " + (int) sign + ")", real.type(sign), model.type(sign));
        }
        if (calls < CALLS) {
            same("perform()", real.perform(), model.perform());
        }
    }

    private String text() {
        StringBuilder text = new StringBuilder();
        int commands = 1 + random.nextInt(4);
        for (int i = 0; i < commands; i++) {
            text.append(i == 0 ? "" : ";").append(command());
        }
        if (random.nextInt(3) == 0) {
            spoil(text);
        }
        return text.toString();
    }

    private String command() {
        int kind = random.nextInt(3);
        int name = random.nextInt(10) == 0 ? 8 : random.nextInt(3);
        switch (random.nextInt(6)) {
            case 0: return "add " + name + " " + KINDS[kind];
            case 1:
                int standard = random.nextInt(3) == 0 ? value() : random.nextInt(2);
                return "add " + name + " " + KINDS[kind] + " " + standard;
            case 2: return "drop " + name;
            case 3: return "kind " + name + " " + KINDS[kind];
            case 4: return "row";
            default: return "set " + Math.min(26, Math.max(0, row())) + " " + name + " " + value();
        }
    }

    private void spoil(StringBuilder text) {
        int place = random.nextInt(text.length());
        char sign = " ;-0123789adknrsw\u00e9\u0130".charAt(random.nextInt(19));
        switch (random.nextInt(4)) {
            case 0: text.deleteCharAt(place); break;
            case 1: text.insert(place, sign); break;
            case 2: text.setCharAt(place, sign); break;
            default: text.setLength(place); break;
        }
    }
}
