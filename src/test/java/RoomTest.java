import java.lang.reflect.Array;
import java.lang.reflect.Field;
import java.lang.reflect.Modifier;
import java.nio.file.Files;
import java.nio.file.Path;
import java.util.ArrayDeque;
import java.util.Collections;
import java.util.Deque;
import java.util.IdentityHashMap;
import java.util.List;
import java.util.Set;
import java.util.regex.Pattern;

/** The room that a table takes: what a new one holds, and that the calls do not make more of it. */
public final class RoomTest extends TestBase {
    // All calls of one run have room for some 600,000 objects and arrays, 7.3 million fields and elements: a hundredth
    // of it leaves a hundred tables to a run.
    private static final int OBJECTS = 6_000;
    private static final int FIELDS_AND_ELEMENTS = 73_000;
    private static final int CALLS = 512;
    private static final List<String> MAKING = List.of("new", "clone", "copyOf", "copyOfRange", "toCharArray",
        "substring", "toString", "StringBuilder", "List", "ArrayList", "Iterator");

    private int objects = 0;
    private int fieldsAndElements = 0;

    public static void main(String[] args) throws Exception {
        topic("the room of one run");
        ColumnSeasons x = new ColumnSeasons();
        RoomTest before = countedIn(x);
        CHECKS.dueThat("a table has few objects: " + before.objects, before.objects <= OBJECTS);
        CHECKS.dueThat("a table has few fields and elements: " + before.fieldsAndElements,
            before.fieldsAndElements <= FIELDS_AND_ELEMENTS);
        callsOfAllKinds(x);
        RoomTest after = countedIn(x);
        due("objects after 512 calls", after.objects, before.objects);
        due("fields and elements after 512 calls", after.fieldsAndElements, before.fieldsAndElements);
        callsMakeNothing(Files.readString(Path.of(args[0])));
        CHECKS.end();
    }

    private static RoomTest countedIn(Object first) throws Exception {
        RoomTest counted = new RoomTest();
        Set<Object> seen = Collections.newSetFromMap(new IdentityHashMap<>());
        Deque<Object> open = new ArrayDeque<>();
        open.add(first);
        while (!open.isEmpty()) {
            Object one = open.removeLast();
            if (seen.add(one)) {
                counted.objects++;
                if (one.getClass().isArray()) {
                    counted.addArray(one, open);
                } else {
                    counted.addObject(one, open);
                }
            }
        }
        return counted;
    }

    private void addArray(Object array, Deque<Object> open) {
        int length = Array.getLength(array);
        fieldsAndElements += length;
        for (int i = 0; i < length && !array.getClass().getComponentType().isPrimitive(); i++) {
            if (Array.get(array, i) != null) {
                open.add(Array.get(array, i));
            }
        }
    }

    private void addObject(Object one, Deque<Object> open) throws Exception {
        for (Field field : one.getClass().getDeclaredFields()) {
            if (!Modifier.isStatic(field.getModifiers())) {
                fieldsAndElements++;
                field.setAccessible(true);
                if (!field.getType().isPrimitive() && field.get(one) != null) {
                    open.add(field.get(one));
                }
            }
        }
    }

    private static void callsOfAllKinds(ColumnSeasons x) {
        for (int call = 0; call < CALLS; call++) {
            oneCall(x, call);
        }
    }

    /** The next call of 25, with numbers that change from round to round. */
    private static int oneCall(ColumnSeasons x, int call) {
        int round = call / 25;
        switch (call % 25) {
            case 0: return x.add(round % 8, NUMBER, round);
            case 1: return x.row();
            case 2: return x.set(round % 12, round % 8, round + 1);
            case 3: return x.kind(round % 8, round % 3);
            case 4: return x.drop((round + 1) % 8);
            case 5: return x.makeOver(0, round % 4);
            case 6: return round % 5 == 4 ? x.remove(0) : x.row();
            case 7: return round % 7 == 6 ? x.forget() : x.row();
            case 8: case 9: return x.type("row;add 1 flag".charAt((2 * round + call % 25 - 8) % 14));
            case 10: return x.perform();
            case 11: return round % 6 == 5 ? x.clearText() : x.stopped(round % 2);
            case 12: return round % 4 == 3 ? x.undo() : x.keep();
            case 13: return round % 4 == 2 ? x.restore() : x.count(round % 9);
            case 14: return x.column(round, round % 8, round % 2);
            case 15: return x.season(round, round % 4);
            case 16: return x.value(round, round % 8);
            case 17: case 18: return x.read(round % 8, round, round % 8, call % 2);
            case 19: return x.seasonOf(round);
            case 20: return x.view(0, round, round % 3);
            case 21: case 22: return x.viewColumn(round / 2, round, round % 8, call % 5);
            case 23: return x.bestFrom();
            default: return x.bestSeason(round % 2);
        }
    }

    /** Also what is not kept counts: nothing is made but in the fields' initialisers and in the constructors. */
    private static void callsMakeNothing(String source) {
        topic("what is made is made with the table");
        String code = source.replaceAll("(?s)/\\*.*?\\*/", " ").replaceAll("//[^\n]*", " ");
        String constructors = "(?s)\n +(?:public )?(?:ColumnSeasons|Table|History|Command|Script)\\(\\) \\{.*?\n +\\}\n";
        String fields = "\n +private final [\\w\\[\\]]+ \\w+ = new [^;]*;";
        String calls = code.replaceAll(constructors, "\n").replaceAll(fields, "\n");
        for (String word : MAKING) {
            CHECKS.dueThat("no call makes something with '" + word + "'",
                !Pattern.compile("\\b" + word + "\\b").matcher(calls).find());
        }
        CHECKS.dueThat("the calls stand in the text that was looked through", calls.contains("int perform() {"));
    }
}
