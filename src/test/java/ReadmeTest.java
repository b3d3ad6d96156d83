import java.lang.reflect.Method;
import java.nio.file.Files;
import java.nio.file.Path;
import java.util.regex.Matcher;
import java.util.regex.Pattern;

/** The calls that README.md shows, in their order, on one table: each must answer what stands behind it. */
public final class ReadmeTest {
    private static final Pattern MADE = Pattern.compile("ColumnSeasons table = new ColumnSeasons\\(\\);");
    private static final Pattern TYPED =
        Pattern.compile("for \\(char c : \"([^\"]*)\"\\.toCharArray\\(\\)\\) table\\.type\\(c\\);");
    private static final Pattern ASKED =
        Pattern.compile("table\\.(\\w+)\\(([-0-9, ]*)\\);\\s+// ([A-Z_]+|-?[0-9]+)(: .*)?");

    private static final Checks CHECKS = new Checks();

    private ColumnSeasons table = null;

    public static void main(String[] args) throws Exception {
        ReadmeTest test = new ReadmeTest();
        boolean isCode = false;
        int number = 0;
        for (String line : Files.readAllLines(Path.of("README.md"))) {
            number++;
            CHECKS.topic("README.md, line " + number);
            if (line.startsWith("```")) {
                isCode = line.equals("```java");
            } else if (isCode) {
                test.line(line);
            }
        }
        CHECKS.end();
    }

    private void line(String line) throws Exception {
        Matcher typed = TYPED.matcher(line);
        Matcher asked = ASKED.matcher(line);
        if (MADE.matcher(line).matches()) {
            table = new ColumnSeasons();
        } else if (typed.matches()) {
            for (char sign : typed.group(1).toCharArray()) {
                table.type(sign);
            }
        } else if (asked.matches()) {
            String call = asked.group(1) + "(" + asked.group(2) + ")";
            CHECKS.due(call, answer(asked.group(1), asked.group(2)), due(asked.group(3)));
        } else {
            CHECKS.dueThat("this test understands: " + line, false);
        }
    }

    private int answer(String call, String numbers) throws Exception {
        String[] words = numbers.isEmpty() ? new String[0] : numbers.split(", ");
        Object[] arguments = new Object[words.length];
        for (int i = 0; i < words.length; i++) {
            arguments[i] = Integer.parseInt(words[i]);
        }
        for (Method method : ColumnSeasons.class.getMethods()) {
            if (method.getName().equals(call) && method.getParameterCount() == words.length) {
                return (int) method.invoke(table, arguments);
            }
        }
        throw new IllegalArgumentException("no call " + call + " of " + words.length);
    }

    private static int due(String word) throws Exception {
        boolean isConstant = Character.isLetter(word.charAt(0));
        return isConstant ? ColumnSeasons.class.getField(word).getInt(null) : Integer.parseInt(word);
    }
}
