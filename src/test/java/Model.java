import java.util.ArrayDeque;
import java.util.ArrayList;
import java.util.Deque;
import java.util.HashSet;
import java.util.List;
import java.util.Set;
import java.util.TreeMap;
import java.util.regex.Matcher;
import java.util.regex.Pattern;

/**
 * The document once more, in another way than the program's: states that never change, maps for dresses, a pattern for
 * the texts. ModelRuns compares the two.
 */
final class Model {
    private static final int UNKNOWN = -10001;
    private static final int BAD = -10002;
    private static final int FULL = -10003;
    private static final int NOT_POSSIBLE = -10004;
    private static final int NONE = -10005;

    private static final String NUMBER = "(0|-?[1-9][0-9]{0,3})";
    private static final String COMMAND = "(add [0-7] (flag( [01])?|digit( [0-9])?|number( " + NUMBER + ")?)"
        + "|drop [0-7]|kind [0-7] (flag|digit|number)|row|set ([0-9]|1[0-9]|2[0-3]) [0-7] " + NUMBER + ")";
    private static final Pattern TEXT = Pattern.compile(COMMAND + "(;" + COMMAND + ")*");

    private record Column(int kind, int standard) { }

    private record Row(int season, TreeMap<Integer, Integer> values) { }

    private record State(List<TreeMap<Integer, Column>> seasons, List<Row> rows) {
        State copy() {
            return new State(new ArrayList<>(seasons), new ArrayList<>(rows));
        }

        int now() {
            return seasons.size() - 1;
        }

        TreeMap<Integer, Column> dress() {
            return seasons.get(now());
        }

        TreeMap<Integer, Column> dressOf(int row) {
            return seasons.get(rows.get(row).season());
        }
    }

    private State state = new State(List.of(new TreeMap<>()), List.of());
    private final Deque<State> history = new ArrayDeque<>();
    private State snapshot = null;
    private String text = "";
    private int stopIndex = -1;
    private int stopError = 0;

    // ---- the acts, each on a state that is its own

    private interface Act {
        int on(State s);
    }

    private int act(Act act) {
        State before = state;
        State after = state.copy();
        int answer = act.on(after);
        if (answer > UNKNOWN) {
            state = after;
            record(before);
        }
        return answer;
    }

    private void record(State before) {
        history.addLast(before);
        if (history.size() > 4) {
            history.removeFirst();
        }
    }

    private static boolean in(int value, int least, int greatest) {
        return value >= least && value <= greatest;
    }

    private static boolean ofKind(int value, int kind) {
        return switch (kind) {
            case 0 -> in(value, 0, 1);
            case 1 -> in(value, 0, 9);
            default -> in(value, -9999, 9999);
        };
    }

    private static int cast(int value, int kind) {
        return switch (kind) {
            case 0 -> value != 0 ? 1 : 0;
            case 1 -> value < 0 ? 0 : value > 9 ? 9 : value;
            default -> value;
        };
    }

    private static boolean loses(int value, int from, int to) {
        return cast(cast(value, to), from) != value;
    }

    private static int begin(State s, int name, Column column) {
        TreeMap<Integer, Column> dress = new TreeMap<>(s.dress());
        if (column == null) {
            dress.remove(name);
        } else {
            dress.put(name, column);
        }
        s.seasons().add(dress);
        return s.now();
    }

    private static int add(State s, int name, int kind, int standard) {
        if (!in(name, 0, 7)) return UNKNOWN;
        if (!in(kind, 0, 2) || !ofKind(standard, kind)) return BAD;
        if (s.dress().containsKey(name)) return NOT_POSSIBLE;
        if (s.seasons().size() == 30) return FULL;
        return begin(s, name, new Column(kind, standard));
    }

    private static int drop(State s, int name) {
        if (!s.dress().containsKey(name)) return UNKNOWN;
        if (s.seasons().size() == 30) return FULL;
        return begin(s, name, null);
    }

    private static int kind(State s, int name, int kind) {
        if (!s.dress().containsKey(name)) return UNKNOWN;
        if (!in(kind, 0, 2)) return BAD;
        if (s.seasons().size() == 30) return FULL;
        Column was = s.dress().get(name);
        if (was.kind() == kind) return NONE;
        return begin(s, name, new Column(kind, cast(was.standard(), kind)));
    }

    private static int row(State s) {
        if (s.rows().size() == 24) return FULL;
        TreeMap<Integer, Integer> values = new TreeMap<>();
        s.dress().forEach((name, column) -> values.put(name, column.standard()));
        s.rows().add(new Row(s.now(), values));
        return s.rows().size() - 1;
    }

    private static int set(State s, int row, int name, int value) {
        if (!in(row, 0, s.rows().size() - 1) || !s.dressOf(row).containsKey(name)) return UNKNOWN;
        if (!ofKind(value, s.dressOf(row).get(name).kind())) return BAD;
        int previous = s.rows().get(row).values().get(name);
        if (previous == value) return NONE;
        TreeMap<Integer, Integer> values = new TreeMap<>(s.rows().get(row).values());
        values.put(name, value);
        s.rows().set(row, new Row(s.rows().get(row).season(), values));
        return previous;
    }

    private static int remove(State s, int row) {
        if (!in(row, 0, s.rows().size() - 1)) return UNKNOWN;
        s.rows().remove(row);
        return s.rows().size();
    }

    private static int makeOver(State s, int from, int to) {
        int last = s.rows().size() - 1;
        if (!in(from, 0, last) || !in(to, 0, last)) return UNKNOWN;
        if (to < from) return BAD;
        int losses = 0;
        int made = 0;
        for (int row = from; row <= to; row++) {
            if (s.rows().get(row).season() == s.now()) continue;
            made++;
            losses += losses(s, row, s.now());
            TreeMap<Integer, Integer> values = new TreeMap<>();
            for (int name : s.dress().keySet()) {
                values.put(name, read(s, row, s.now(), name)[0]);
            }
            s.rows().set(row, new Row(s.now(), values));
        }
        return made == 0 ? NONE : losses;
    }

    private static int forget(State s) {
        int forgotten = 0;
        while (s.seasons().size() > 1 && s.rows().stream().noneMatch(row -> row.season() == 0)) {
            s.seasons().remove(0);
            s.rows().replaceAll(row -> new Row(row.season() - 1, row.values()));
            forgotten++;
        }
        return forgotten == 0 ? NONE : forgotten;
    }

    /** The value and how it came. */
    private static int[] read(State s, int row, int season, int name) {
        Column wanted = s.seasons().get(season).get(name);
        Column own = s.dressOf(row).get(name);
        if (own == null) return new int[] {wanted.standard(), 3};
        int value = s.rows().get(row).values().get(name);
        int how = own.kind() == wanted.kind() ? 0 : loses(value, own.kind(), wanted.kind()) ? 2 : 1;
        return new int[] {cast(value, wanted.kind()), how};
    }

    private static int losses(State s, int row, int season) {
        int losses = 0;
        for (int name : s.dressOf(row).keySet()) {
            if (!s.seasons().get(season).containsKey(name) || read(s, row, season, name)[1] == 2) losses++;
        }
        return losses;
    }

    private static int losses(State s, int season) {
        int losses = 0;
        for (int row = 0; row < s.rows().size(); row++) {
            losses += losses(s, row, season);
        }
        return losses;
    }

    // ---- the face

    int add(int name, int kind, int standard) { return act(s -> add(s, name, kind, standard)); }

    int drop(int name) { return act(s -> drop(s, name)); }

    int kind(int name, int kind) { return act(s -> kind(s, name, kind)); }

    int row() { return act(Model::row); }

    int set(int row, int name, int value) { return act(s -> set(s, row, name, value)); }

    int remove(int row) { return act(s -> remove(s, row)); }

    int makeOver(int from, int to) { return act(s -> makeOver(s, from, to)); }

    int forget() { return act(Model::forget); }

    int type(char character) {
        if (text.length() == 80) return FULL;
        text += character;
        return text.length();
    }

    int clearText() {
        int length = text.length();
        text = "";
        return length;
    }

    private int fault() {
        if (TEXT.matcher(text).matches()) return -1;
        for (int end = 1; end <= text.length(); end++) {
            Matcher start = TEXT.matcher(text.substring(0, end));
            if (!start.matches() && !start.hitEnd()) return end - 1;
        }
        return text.length();
    }

    int perform() {
        int fault = fault();
        if (fault >= 0) return -10100 - fault;
        String[] commands = text.split(";");
        return act(s -> {
            for (int i = 0; i < commands.length; i++) {
                int answer = carryOut(s, commands[i].split(" "));
                if (answer <= UNKNOWN && answer != NONE) {
                    stopIndex = i;
                    stopError = answer;
                    return NOT_POSSIBLE;
                }
            }
            return commands.length;
        });
    }

    private static int carryOut(State s, String[] words) {
        return switch (words[0]) {
            case "add" -> add(s, number(words[1]), kindOf(words[2]), words.length > 3 ? number(words[3]) : 0);
            case "drop" -> drop(s, number(words[1]));
            case "kind" -> kind(s, number(words[1]), kindOf(words[2]));
            case "row" -> row(s);
            default -> set(s, number(words[1]), number(words[2]), number(words[3]));
        };
    }

    private static int number(String word) {
        return Integer.parseInt(word);
    }

    private static int kindOf(String word) {
        return List.of("flag", "digit", "number").indexOf(word);
    }

    int stopped(int what) {
        if (!in(what, 0, 1)) return BAD;
        if (stopIndex < 0) return NONE;
        return what == 0 ? stopIndex : stopError;
    }

    int undo() {
        if (history.isEmpty()) return NONE;
        state = history.removeLast();
        return history.size();
    }

    int keep() {
        snapshot = state;
        return state.rows().size();
    }

    int restore() {
        if (snapshot == null) return NONE;
        record(state);
        state = snapshot;
        return state.rows().size();
    }

    private boolean isSeason(int season) {
        return in(season, 0, state.now());
    }

    private boolean isRow(int row) {
        return in(row, 0, state.rows().size() - 1);
    }

    private static int asSet(Set<Integer> names) {
        return names.stream().mapToInt(name -> 1 << name).sum();
    }

    int column(int season, int name, int what) {
        if (!isSeason(season) || !in(name, 0, 7)) return UNKNOWN;
        if (!in(what, 0, 1)) return BAD;
        Column column = state.seasons().get(season).get(name);
        if (column == null) return NONE;
        return what == 0 ? column.kind() : column.standard();
    }

    int season(int season, int what) {
        if (!isSeason(season)) return UNKNOWN;
        TreeMap<Integer, Column> dress = state.seasons().get(season);
        switch (what) {
            case 0: return dress.size();
            case 1: return asSet(dress.keySet());
            case 2: return (int) state.rows().stream().filter(row -> row.season() == season).count();
            case 3:
                if (season == 0) return 0;
                TreeMap<Integer, Column> before = state.seasons().get(season - 1);
                return (int) dress.keySet().stream()
                    .filter(n -> !before.containsKey(n) || before.get(n).kind() != dress.get(n).kind()).count();
            default: return BAD;
        }
    }

    int value(int row, int name) {
        if (!isRow(row) || !in(name, 0, 7)) return UNKNOWN;
        return state.rows().get(row).values().getOrDefault(name, NONE);
    }

    int read(int row, int season, int name, int what) {
        if (!isRow(row) || !isSeason(season) || !in(name, 0, 7)) return UNKNOWN;
        if (!in(what, 0, 1)) return BAD;
        if (!state.seasons().get(season).containsKey(name)) return NONE;
        return read(state, row, season, name)[what];
    }

    int seasonOf(int row) {
        return isRow(row) ? state.rows().get(row).season() : UNKNOWN;
    }

    private Set<Integer> shown(int from, int to) {
        if (to < from) return Set.of();
        Set<Integer> names = new HashSet<>(state.dressOf(from).keySet());
        for (int row = from; row <= to; row++) {
            names.retainAll(state.dressOf(row).keySet());
        }
        return names;
    }

    private List<Integer> valuesOf(int from, int to, int name) {
        List<Integer> values = new ArrayList<>();
        for (int row = from; row <= to; row++) {
            values.add(state.rows().get(row).values().get(name));
        }
        return values;
    }

    int view(int from, int to, int what) {
        if (!isRow(from) || !isRow(to)) return UNKNOWN;
        if (!in(what, 0, 2)) return BAD;
        if (what == 0) return asSet(shown(from, to));
        if (what == 1) return to < from ? 0 : to - from + 1;
        int found = 0;
        for (int name : shown(from, to)) {
            Column column = state.dress().get(name);
            if (column == null) continue;
            found += valuesOf(from, to, name).stream().filter(value -> value == column.standard()).count();
        }
        return found;
    }

    int viewColumn(int from, int to, int name, int what) {
        if (!isRow(from) || !isRow(to) || !in(name, 0, 7)) return UNKNOWN;
        if (!in(what, 0, 4)) return BAD;
        if (!shown(from, to).contains(name)) return NONE;
        List<Integer> values = valuesOf(from, to, name);
        switch (what) {
            case 0:
                int widest = 0;
                for (int row = from; row <= to; row++) {
                    widest = Math.max(widest, state.dressOf(row).get(name).kind());
                }
                return widest;
            case 1: return values.stream().mapToInt(value -> value).sum();
            case 2: return values.stream().mapToInt(value -> value).min().getAsInt();
            case 3: return values.stream().mapToInt(value -> value).max().getAsInt();
            default: return new HashSet<>(values).size();
        }
    }

    int bestFrom() {
        int best = NONE;
        int most = -1;
        int last = state.rows().size() - 1;
        for (int row = 0; row <= last; row++) {
            if (shown(row, last).size() > most) {
                most = shown(row, last).size();
                best = row;
            }
        }
        return best;
    }

    int bestSeason(int what) {
        if (!in(what, 0, 1)) return BAD;
        int best = 0;
        for (int season = 0; season <= state.now(); season++) {
            if (losses(state, season) <= losses(state, best)) best = season;
        }
        return what == 0 ? best : losses(state, best);
    }

    int count(int what) {
        switch (what) {
            case 0: return state.now();
            case 1: return state.dress().size();
            case 2: return state.rows().size();
            case 3: return season(state.now(), 2);
            case 4: return state.rows().stream().mapToInt(row -> row.values().size()).sum();
            case 5: return losses(state, state.now());
            case 6:
                Set<Integer> names = new HashSet<>();
                state.seasons().forEach(dress -> names.addAll(dress.keySet()));
                return asSet(names);
            case 7: return history.size();
            case 8: return text.length();
            default: return BAD;
        }
    }
}
